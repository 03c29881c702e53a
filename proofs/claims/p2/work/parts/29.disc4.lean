set_option maxRecDepth 100000 in
theorem mw_480 : Cond.methodLink R_Di 116 y_No_isWithin ∈ lw_g := lw_gin (List.mem_append_right _ (List.mem_of_getElem? (i := 355) rfl)) (by decide +kernel)
set_option maxRecDepth 100000 in
theorem mw_481 : Cond.code y_Ns_levelsOf b_Ns_levelsOf 4 (some .int) ∈ lw_g := lw_gin (List.mem_append_right _ (List.mem_of_getElem? (i := 362) rfl)) (by decide +kernel)
set_option maxRecDepth 100000 in
theorem mw_482 : Cond.methodLink R_Di 119 y_Ns_levelsOf ∈ lw_g := lw_gin (List.mem_append_right _ (List.mem_of_getElem? (i := 359) rfl)) (by decide +kernel)
set_option maxRecDepth 100000 in
theorem mw_483 : Cond.instanceMethod y_Ns_levelsOf ∈ lw_g := lw_gin (List.mem_append_right _ (List.mem_of_getElem? (i := 360) rfl)) (by decide +kernel)
set_option maxRecDepth 100000 in
theorem mw_484 : Cond.selects R_Ns y_Ns_levelsOf y_Ns_levelsOf ∈ lw_g := lw_gin (List.mem_append_right _ (List.mem_of_getElem? (i := 361) rfl)) (by decide +kernel)
set_option maxRecDepth 100000 in
theorem mw_485 : Cond.methodLink R_Di 127 y_No_takeName ∈ lw_g := lw_gin (List.mem_append_right _ (List.mem_of_getElem? (i := 368) rfl)) (by decide +kernel)
theorem d_Di_rename_0 : decode b_Di_rename 0 = .ok (.aload_n 0, 1) := by decide +kernel
theorem d_Di_rename_1 : decode b_Di_rename 1 = .ok (.getfield 10, 3) := by decide +kernel
theorem d_Di_rename_4 : decode b_Di_rename 4 = .ok (.getfield 60, 3) := by decide +kernel
theorem d_Di_rename_7 : decode b_Di_rename 7 = .ok (.getfield 69, 3) := by decide +kernel
theorem d_Di_rename_10 : decode b_Di_rename 10 = .ok (.ifCond .eq 6, 3) := by decide +kernel
theorem d_Di_rename_16 : decode b_Di_rename 16 = .ok (.aload_n 0, 1) := by decide +kernel
theorem d_Di_rename_17 : decode b_Di_rename 17 = .ok (.getfield 26, 3) := by decide +kernel
theorem d_Di_rename_20 : decode b_Di_rename 20 = .ok (.iload_n 1, 1) := by decide +kernel
theorem d_Di_rename_21 : decode b_Di_rename 21 = .ok (.invokevirtual 90, 3) := by decide +kernel
theorem d_Di_rename_24 : decode b_Di_rename 24 = .ok (.astore 5, 2) := by decide +kernel
theorem d_Di_rename_26 : decode b_Di_rename 26 = .ok (.aload_n 0, 1) := by decide +kernel
theorem d_Di_rename_27 : decode b_Di_rename 27 = .ok (.getfield 26, 3) := by decide +kernel
theorem d_Di_rename_30 : decode b_Di_rename 30 = .ok (.iload_n 2, 1) := by decide +kernel
theorem d_Di_rename_31 : decode b_Di_rename 31 = .ok (.invokevirtual 72, 3) := by decide +kernel
theorem d_Di_rename_34 : decode b_Di_rename 34 = .ok (.astore 6, 2) := by decide +kernel
theorem d_Di_rename_36 : decode b_Di_rename 36 = .ok (.lload_n 3, 1) := by decide +kernel
theorem d_Di_rename_37 : decode b_Di_rename 37 = .ok (.invokestatic 112, 3) := by decide +kernel
theorem d_Di_rename_40 : decode b_Di_rename 40 = .ok (.lstore 7, 2) := by decide +kernel
theorem d_Di_rename_42 : decode b_Di_rename 42 = .ok (.aload 5, 2) := by decide +kernel
theorem d_Di_rename_44 : decode b_Di_rename 44 = .ok (.ifnull 23, 3) := by decide +kernel
theorem d_Di_rename_67 : decode b_Di_rename 67 = .ok (.bipush (-2), 2) := by decide +kernel
theorem d_Di_rename_69 : decode b_Di_rename 69 = .ok (.ireturn, 1) := by decide +kernel
theorem d_Di_rename_47 : decode b_Di_rename 47 = .ok (.aload 5, 2) := by decide +kernel
theorem d_Di_rename_49 : decode b_Di_rename 49 = .ok (.getfield 100, 3) := by decide +kernel
theorem d_Di_rename_52 : decode b_Di_rename 52 = .ok (.ifnull 15, 3) := by decide +kernel
theorem d_Di_rename_55 : decode b_Di_rename 55 = .ok (.aload 6, 2) := by decide +kernel
theorem d_Di_rename_57 : decode b_Di_rename 57 = .ok (.ifnull 10, 3) := by decide +kernel
theorem d_Di_rename_60 : decode b_Di_rename 60 = .ok (.lload 7, 2) := by decide +kernel
theorem d_Di_rename_62 : decode b_Di_rename 62 = .ok (.lconst 0, 1) := by decide +kernel
theorem d_Di_rename_63 : decode b_Di_rename 63 = .ok (.lcmp, 1) := by decide +kernel
theorem d_Di_rename_64 : decode b_Di_rename 64 = .ok (.ifCond .ne 6, 3) := by decide +kernel
theorem d_Di_rename_70 : decode b_Di_rename 70 = .ok (.aload 6, 2) := by decide +kernel
theorem d_Di_rename_72 : decode b_Di_rename 72 = .ok (.aload 5, 2) := by decide +kernel
theorem d_Di_rename_74 : decode b_Di_rename 74 = .ok (.invokevirtual 116, 3) := by decide +kernel
theorem d_Di_rename_77 : decode b_Di_rename 77 = .ok (.ifCond .eq 6, 3) := by decide +kernel
theorem d_Di_rename_83 : decode b_Di_rename 83 = .ok (.aload 6, 2) := by decide +kernel
theorem d_Di_rename_85 : decode b_Di_rename 85 = .ok (.invokevirtual 76, 3) := by decide +kernel
theorem d_Di_rename_88 : decode b_Di_rename 88 = .ok (.aload_n 0, 1) := by decide +kernel
theorem d_Di_rename_89 : decode b_Di_rename 89 = .ok (.getfield 26, 3) := by decide +kernel
theorem d_Di_rename_92 : decode b_Di_rename 92 = .ok (.aload 5, 2) := by decide +kernel
theorem d_Di_rename_94 : decode b_Di_rename 94 = .ok (.invokevirtual 119, 3) := by decide +kernel
theorem d_Di_rename_97 : decode b_Di_rename 97 = .ok (.iadd, 1) := by decide +kernel
theorem d_Di_rename_98 : decode b_Di_rename 98 = .ok (.bipush 6, 2) := by decide +kernel
theorem d_Di_rename_100 : decode b_Di_rename 100 = .ok (.if_icmp .le 6, 3) := by decide +kernel
theorem d_Di_rename_106 : decode b_Di_rename 106 = .ok (.aload_n 0, 1) := by decide +kernel
theorem d_Di_rename_107 : decode b_Di_rename 107 = .ok (.getfield 26, 3) := by decide +kernel
theorem d_Di_rename_110 : decode b_Di_rename 110 = .ok (.aload 6, 2) := by decide +kernel
theorem d_Di_rename_112 : decode b_Di_rename 112 = .ok (.lload 7, 2) := by decide +kernel
theorem d_Di_rename_114 : decode b_Di_rename 114 = .ok (.aload 5, 2) := by decide +kernel
theorem d_Di_rename_116 : decode b_Di_rename 116 = .ok (.invokevirtual 123, 3) := by decide +kernel
theorem d_Di_rename_119 : decode b_Di_rename 119 = .ok (.ifCond .eq 6, 3) := by decide +kernel
theorem d_Di_rename_125 : decode b_Di_rename 125 = .ok (.aload 5, 2) := by decide +kernel
theorem d_Di_rename_127 : decode b_Di_rename 127 = .ok (.aload 6, 2) := by decide +kernel
theorem d_Di_rename_129 : decode b_Di_rename 129 = .ok (.putfield 100, 3) := by decide +kernel
theorem d_Di_rename_132 : decode b_Di_rename 132 = .ok (.aload 5, 2) := by decide +kernel
theorem d_Di_rename_134 : decode b_Di_rename 134 = .ok (.lload 7, 2) := by decide +kernel
theorem d_Di_rename_136 : decode b_Di_rename 136 = .ok (.invokevirtual 127, 3) := by decide +kernel
theorem d_Di_rename_139 : decode b_Di_rename 139 = .ok (.iconst 0, 1) := by decide +kernel
theorem d_Di_rename_140 : decode b_Di_rename 140 = .ok (.ireturn, 1) := by decide +kernel
theorem d_Di_rename_122 : decode b_Di_rename 122 = .ok (.bipush (-5), 2) := by decide +kernel
theorem d_Di_rename_124 : decode b_Di_rename 124 = .ok (.ireturn, 1) := by decide +kernel
theorem d_Di_rename_103 : decode b_Di_rename 103 = .ok (.bipush (-2), 2) := by decide +kernel
theorem d_Di_rename_105 : decode b_Di_rename 105 = .ok (.ireturn, 1) := by decide +kernel
theorem d_Di_rename_80 : decode b_Di_rename 80 = .ok (.bipush (-2), 2) := by decide +kernel
theorem d_Di_rename_82 : decode b_Di_rename 82 = .ok (.ireturn, 1) := by decide +kernel
theorem d_Di_rename_13 : decode b_Di_rename 13 = .ok (.bipush (-4), 2) := by decide +kernel
theorem d_Di_rename_15 : decode b_Di_rename 15 = .ok (.ireturn, 1) := by decide +kernel
theorem TrP_move {τ : tM} {t : Nat → ClassId} {n f : Nat} {h h1 : hM} {P x p k : Nat} {e : va_E} {a : Value} {l : List Value} (hI : TI τ t n h) (hP : τ P = (7, f)) (hT : TrP t h P) (hp : ndlv t h P p) (hN : ChN (prt h) x k p) (hx : τ x = (10, f)) (he : h1 = hu h x e) (hF : h1 x = some (.inr (1, a :: .ref p :: l))) : TrP t h1 P := by
  obtain ⟨s, o, c, nn, sl, g1, g2, g3, g4⟩ := hT
  obtain ⟨s', o', c', nn', sl', q1, q2⟩ := hp
  obtain ⟨rfl, rfl, rfl, rfl, rfl⟩ := Nds_eq g1 q1
  obtain ⟨t1, -, -⟩ := TJ_nds hI hP g1.1
  refine ⟨s, o, c, nn, sl, ⟨?_, ?_⟩, g2, g3, Tr_move g4 q2 hN (by simp [prt, nod, hF]) (fun b hb => prt_nod ?_)⟩
  · rw [he, hu_n (tne hP hx (by decide))]
    exact g1.1
  · rw [he, hu_n (tne t1 hx (by decide))]
    exact g1.2
  · simp [nod, he, hu_n hb]

set_option maxHeartbeats 4000000 in
set_option maxRecDepth 100000 in
theorem x_rename (l : Launch) (D : va_G) (t : Nat → ClassId) (G : hG) (ak av : Nat → Nat) (h : hM) (τ : tM) (n : Nat) (x9 : Nat) (a9 : Int32) (b9 : Int32) (w9 : Int64) (hn : n ≤ 200) (hT : TI τ t n h) (T_x9 : τ x9 = (1, 0)) (hU : ∀ a b, τ a = (7, 0) → τ b = (7, 0) → a = b) (hTr : ∀ P, τ P = (7, 0) → TrP t h P) : Met l y_Di_rename (.code y_Di_rename b_Di_rename 9 (some .int) :: lw_g) { frames := 2, cells := 0, slots := 0, locals := 45 } (hP (kE D t G ak av) D vwCl G h [.ref x9, .int a9, .int b9, .long w9]) (hQi D vwCl G (fun r h' => TI τ t n h' ∧ kf τ [(10, 0)] [] h h' ∧ (∀ P, τ P = (7, 0) → TrP t h' P))) 0 0 G.P := by
  refine Met.ofW (cc := b_Di_rename) (maxL := 9) (ret := (some .int)) (by decide) rfl ?_
  intro p e s m args below meth c s₁ Bd hml hv
  obtain ⟨ha, hE, hH⟩ := hv
  have hx := Bd.exec
  have hb := Bd.bytes
  have hr := Bd.returns
  have hts : ∀ w ∈ lw_g, w.before args s = true := fun w hw => atoms_spec (ws := (.code y_Di_rename b_Di_rename 9 (some .int) :: lw_g)) Bd.pre w (List.mem_cons_of_mem _ hw)
  have hown : s.vm.findClass R_Di = some m.cls := findClass_of_methodNamed Bd.named
  have hlocks := Bd.notSynchronized
  have hK := hE.1
  have hH0 := hH
  have hLo : hLc G.P [] := hLc_nil
  have hz : s.heap.size ≤ s.heap.size := Nat.le_refl _
  have hl := lv_entry [.ref x9, .int a9, .int b9, .long w9] (n := 9) (Nat.le_of_ble_eq_true rfl)
  rw [show entryFrame m args 9 = F0 m 0 ((lg_sl [.ref x9, .int a9, .int b9, .long w9] ++ List.replicate (9 - (lg_sl [.ref x9, .int a9, .int b9, .long w9]).length) Slot.unset).toArray) [] from (by rw [ha]; exact lg_entry_eq m [.ref x9, .int a9, .int b9, .long w9] 9)]
  generalize (lg_sl [.ref x9, .int a9, .int b9, .long w9] ++ List.replicate (9 - (lg_sl [.ref x9, .int a9, .int b9, .long w9]).length) Slot.unset).toArray = ls at hl ⊢
  have hl : lv_has ls 9 [(0, .ref x9), (1, .int a9), (2, .int b9), (3, .long w9)] := hl
  have hkf : kf τ [(10, 0)] [] h h := kf_rf
  refine lv_aload_n hx hb d_Di_rename_0 rfl (lv_at hl 0 rfl) ?_
  obtain ⟨v_1, v_3, v_5, v_7, v_9, v_11, v_12, v_14, v_16, F_x9, c_2, c_4, c_6, c_8, c_10, c_13, c_15, c_17⟩ := TI_disc hT T_x9
  refine hm_get (ci := 8) (v := .ref v_1) (C := R_Di) (T := F_Di) (N := 9) hx hb hts ig_Di hown hK hH F_x9 rfl 0 (by decide) (hts _ mw_430) (fun _ h9 => h9) rfl d_Di_rename_1 ?_
  obtain ⟨v_18, v_20, F_v_1, c_19, c_21⟩ := TI_wri hT c_2
  refine hm_get (ci := 7) (v := .ref v_18) (C := R_Wr) (T := F_Wr) (N := 2) hx hb hts ig_Wr hown hK hH F_v_1 rfl 0 (by decide) (hts _ mw_431) (fun _ h9 => h9) rfl d_Di_rename_4 ?_
  obtain ⟨v_22, v_23, v_25, F_v_18, c_24⟩ := TI_pow hT c_19
  refine hm_get (ci := 4) (v := .int v_23) (C := R_Po) (T := F_Po) (N := 3) hx hb hts ig_Po hown hK hH F_v_18 rfl 1 (by decide) (hts _ mw_442) (fun _ h9 => h9) rfl d_Di_rename_7 ?_
  refine lv_if_eq (tgt := 16) hx hb d_Di_rename_10 (by decide) (fun hc_26 => ?_) (fun hc_26 => ?_)
  · skip
    have ic_27 : v_23.toInt = 0 := congrArg Int32.toInt hc_26
    refine lv_aload_n hx hb d_Di_rename_16 rfl (lv_at hl 0 rfl) ?_
    refine hm_get (ci := 8) (v := .ref v_5) (C := R_Di) (T := F_Di) (N := 9) hx hb hts ig_Di hown hK hH F_x9 rfl 2 (by decide) (hts _ mw_443) (fun _ h9 => h9) rfl d_Di_rename_17 ?_
    refine lv_iload_n hx hb d_Di_rename_20 rfl (lv_at hl 1 rfl) ?_
    obtain ⟨v_28, v_30, v_32, v_34, F_v_5, c_29, c_31, c_33⟩ := TI_nds hT c_6
    refine hm_callPr (va_runV (As := [.int a9]) (b := v_5) (rest := []) ⟨hx, hb, hml, hown, hts⟩ (t_nodeOf l D t G ak av h τ n 0 v_5 a9  hn hT c_6) ⟨cw9B 1 hts mw_131 mw_444 mw_132 rfl rfl (by decide +kernel) ⟨Nat.le_of_ble_eq_true rfl, Nat.le_of_ble_eq_true rfl⟩, hts _ mw_134, hts _ mw_135⟩ (hP_V (q := (R_Ns, F_Ns, 4)) kE_ok hE hK hH F_v_5 rfl) rfl rfl hl.1 rfl (lv_room (Nat.le_of_ble_eq_true rfl)) d_Di_rename_21 ⟨Nat.le_of_ble_eq_true rfl, Nat.le_of_ble_eq_true rfl⟩) (fun r_35 h_36 H_37 hp_39  hH z_38 => ?_)
    have hz : s.heap.size ≤ H_37.size := Nat.le_trans hz z_38
    obtain ⟨c_40, xp_41, rfl⟩ := hp_39
    have T_P := c_6
    rcases r_35 with _ | q_42
    · skip
      refine lv_astoreN (lv' := [(5, .null), (0, .ref x9), (1, .int a9), (2, .int b9), (3, .long w9)]) hx hb d_Di_rename_24 hl (by decide) rfl (fun ls hl => ?_)
      refine lv_aload_n hx hb d_Di_rename_26 rfl (lv_at hl 1 rfl) ?_
      refine hm_get (ci := 8) (v := .ref v_5) (C := R_Di) (T := F_Di) (N := 9) hx hb hts ig_Di hown hK hH F_x9 rfl 2 (by decide) (hts _ mw_443) (fun _ h9 => h9) rfl d_Di_rename_27 ?_
      refine lv_iload_n hx hb d_Di_rename_30 rfl (lv_at hl 3 rfl) ?_
      refine hm_callPr (va_runV (As := [.int b9]) (b := v_5) (rest := []) ⟨hx, hb, hml, hown, hts⟩ (t_dirOf l D t G ak av h τ n 0 v_5 b9  hn hT c_6) ⟨cw9B 1 hts mw_462 mw_463 mw_132 rfl rfl (by decide +kernel) ⟨Nat.le_of_ble_eq_true rfl, Nat.le_of_ble_eq_true rfl⟩, hts _ mw_464, hts _ mw_465⟩ (hP_V (q := (R_Ns, F_Ns, 4)) kE_ok hE hK hH F_v_5 rfl) rfl rfl hl.1 rfl (lv_room (Nat.le_of_ble_eq_true rfl)) d_Di_rename_31 ⟨Nat.le_of_ble_eq_true rfl, Nat.le_of_ble_eq_true rfl⟩) (fun r_44 h_45 H_46 hp_48  hH z_47 => ?_)
      have hz : s.heap.size ≤ H_46.size := Nat.le_trans hz z_47
      obtain ⟨c_49, xp_50, rfl⟩ := hp_48
      rcases r_44 with _ | q_51
      · skip
        refine lv_astoreN (lv' := [(6, .null), (5, .null), (0, .ref x9), (1, .int a9), (2, .int b9), (3, .long w9)]) hx hb d_Di_rename_34 hl (by decide) rfl (fun ls hl => ?_)
        refine lv_lload_n hx hb d_Di_rename_36 rfl (lv_at hl 5 rfl) ?_
        refine hm_callPl (va_runS (As := [.long w9]) (rest := []) ⟨hx, hb, hml, hown, hts⟩ (t_nameIn l D t G ak av h τ n w9  hn hT ) ⟨cw9B 1 hts mw_452 mw_453 mw_25 rfl rfl (by decide +kernel) ⟨Nat.le_of_ble_eq_true rfl, Nat.le_of_ble_eq_true rfl⟩, hts _ mw_454⟩ (hP_S kE_ok hE hH) rfl rfl hl.1 rfl (lv_room (Nat.le_of_ble_eq_true rfl)) d_Di_rename_37 ⟨Nat.le_of_ble_eq_true rfl, Nat.le_of_ble_eq_true rfl⟩) (fun r_53 h_54 H_55 hp_57  hH z_56 => ?_)
        have hz : s.heap.size ≤ H_55.size := Nat.le_trans hz z_56
        obtain rfl := hp_57
        refine lv_lstore (lv' := [(7, .long r_53), (6, .null), (5, .null), (0, .ref x9), (1, .int a9), (2, .int b9), (3, .long w9)]) hx hb d_Di_rename_40 hl (by decide) rfl (fun ls hl => ?_)
        refine lv_aloadN hx hb d_Di_rename_42 (lv_at hl 2 rfl) ?_
        refine lv_ifnullN (tgt := 67) hx hb d_Di_rename_44 (by decide) ?_
        refine lv_bipush (v := -2) hx hb d_Di_rename_67 (by decide) ?_
        exact W.iret (v := (-2)) hx hb hr (fun t9 ht hW => ⟨(-2), h, rfl, ⟨hT, hkf, hTr⟩, by rw [ht]; exact hH, by rw [ht]; exact hz⟩) hLo d_Di_rename_69
      · skip
        have T_52 := c_49 q_51 rfl
        refine lv_astore (lv' := [(6, .ref q_51), (5, .null), (0, .ref x9), (1, .int a9), (2, .int b9), (3, .long w9)]) hx hb d_Di_rename_34 hl (by decide) rfl (fun ls hl => ?_)
        refine lv_lload_n hx hb d_Di_rename_36 rfl (lv_at hl 5 rfl) ?_
        refine hm_callPl (va_runS (As := [.long w9]) (rest := []) ⟨hx, hb, hml, hown, hts⟩ (t_nameIn l D t G ak av h τ n w9  hn hT ) ⟨cw9B 1 hts mw_452 mw_453 mw_25 rfl rfl (by decide +kernel) ⟨Nat.le_of_ble_eq_true rfl, Nat.le_of_ble_eq_true rfl⟩, hts _ mw_454⟩ (hP_S kE_ok hE hH) rfl rfl hl.1 rfl (lv_room (Nat.le_of_ble_eq_true rfl)) d_Di_rename_37 ⟨Nat.le_of_ble_eq_true rfl, Nat.le_of_ble_eq_true rfl⟩) (fun r_59 h_60 H_61 hp_63  hH z_62 => ?_)
        have hz : s.heap.size ≤ H_61.size := Nat.le_trans hz z_62
        obtain rfl := hp_63
        refine lv_lstore (lv' := [(7, .long r_59), (6, .ref q_51), (5, .null), (0, .ref x9), (1, .int a9), (2, .int b9), (3, .long w9)]) hx hb d_Di_rename_40 hl (by decide) rfl (fun ls hl => ?_)
        refine lv_aloadN hx hb d_Di_rename_42 (lv_at hl 2 rfl) ?_
        refine lv_ifnullN (tgt := 67) hx hb d_Di_rename_44 (by decide) ?_
        refine lv_bipush (v := -2) hx hb d_Di_rename_67 (by decide) ?_
        exact W.iret (v := (-2)) hx hb hr (fun t9 ht hW => ⟨(-2), h, rfl, ⟨hT, hkf, hTr⟩, by rw [ht]; exact hH, by rw [ht]; exact hz⟩) hLo d_Di_rename_69
    · skip
      have T_43 := c_40 q_42 rfl
      refine lv_astore (lv' := [(5, .ref q_42), (0, .ref x9), (1, .int a9), (2, .int b9), (3, .long w9)]) hx hb d_Di_rename_24 hl (by decide) rfl (fun ls hl => ?_)
      refine lv_aload_n hx hb d_Di_rename_26 rfl (lv_at hl 1 rfl) ?_
      refine hm_get (ci := 8) (v := .ref v_5) (C := R_Di) (T := F_Di) (N := 9) hx hb hts ig_Di hown hK hH F_x9 rfl 2 (by decide) (hts _ mw_443) (fun _ h9 => h9) rfl d_Di_rename_27 ?_
      refine lv_iload_n hx hb d_Di_rename_30 rfl (lv_at hl 3 rfl) ?_
      refine hm_callPr (va_runV (As := [.int b9]) (b := v_5) (rest := []) ⟨hx, hb, hml, hown, hts⟩ (t_dirOf l D t G ak av h τ n 0 v_5 b9  hn hT c_6) ⟨cw9B 1 hts mw_462 mw_463 mw_132 rfl rfl (by decide +kernel) ⟨Nat.le_of_ble_eq_true rfl, Nat.le_of_ble_eq_true rfl⟩, hts _ mw_464, hts _ mw_465⟩ (hP_V (q := (R_Ns, F_Ns, 4)) kE_ok hE hK hH F_v_5 rfl) rfl rfl hl.1 rfl (lv_room (Nat.le_of_ble_eq_true rfl)) d_Di_rename_31 ⟨Nat.le_of_ble_eq_true rfl, Nat.le_of_ble_eq_true rfl⟩) (fun r_65 h_66 H_67 hp_69  hH z_68 => ?_)
      have hz : s.heap.size ≤ H_67.size := Nat.le_trans hz z_68
      obtain ⟨c_70, xp_71, rfl⟩ := hp_69
      rcases r_65 with _ | q_72
      · skip
        refine lv_astoreN (lv' := [(6, .null), (5, .ref q_42), (0, .ref x9), (1, .int a9), (2, .int b9), (3, .long w9)]) hx hb d_Di_rename_34 hl (by decide) rfl (fun ls hl => ?_)
        refine lv_lload_n hx hb d_Di_rename_36 rfl (lv_at hl 5 rfl) ?_
        refine hm_callPl (va_runS (As := [.long w9]) (rest := []) ⟨hx, hb, hml, hown, hts⟩ (t_nameIn l D t G ak av h τ n w9  hn hT ) ⟨cw9B 1 hts mw_452 mw_453 mw_25 rfl rfl (by decide +kernel) ⟨Nat.le_of_ble_eq_true rfl, Nat.le_of_ble_eq_true rfl⟩, hts _ mw_454⟩ (hP_S kE_ok hE hH) rfl rfl hl.1 rfl (lv_room (Nat.le_of_ble_eq_true rfl)) d_Di_rename_37 ⟨Nat.le_of_ble_eq_true rfl, Nat.le_of_ble_eq_true rfl⟩) (fun r_74 h_75 H_76 hp_78  hH z_77 => ?_)
        have hz : s.heap.size ≤ H_76.size := Nat.le_trans hz z_77
        obtain rfl := hp_78
        refine lv_lstore (lv' := [(7, .long r_74), (6, .null), (5, .ref q_42), (0, .ref x9), (1, .int a9), (2, .int b9), (3, .long w9)]) hx hb d_Di_rename_40 hl (by decide) rfl (fun ls hl => ?_)
        refine lv_aload hx hb d_Di_rename_42 (lv_at hl 2 rfl) ?_
        refine lv_ifnull hx hb d_Di_rename_44 ?_
        refine lv_aload hx hb d_Di_rename_47 (lv_at hl 2 rfl) ?_
        obtain ⟨v_80, v_81, v_83, v_85, v_86, v_88, v_89, v_90, v_92, v_93, v_94, F_q_42, c_82, c_84, c_87, c_91⟩ := TI_node hT T_43
        refine hm_get (ci := 1) (v := va_rf v_81) (C := R_No) (T := F_No) (N := 11) hx hb hts ig_No hown hK hH F_q_42 rfl 1 (by decide) (hts _ mw_471) (fun _ h9 => h9) rfl d_Di_rename_49 ?_
        rcases v_81 with _ | q_95
        · skip
          refine lv_ifnullN (tgt := 67) hx hb d_Di_rename_52 (by decide) ?_
          refine lv_bipush (v := -2) hx hb d_Di_rename_67 (by decide) ?_
          exact W.iret (v := (-2)) hx hb hr (fun t9 ht hW => ⟨(-2), h, rfl, ⟨hT, hkf, hTr⟩, by rw [ht]; exact hH, by rw [ht]; exact hz⟩) hLo d_Di_rename_69
        · skip
          have T_96 := c_82 q_95 rfl
          refine lv_ifnull hx hb d_Di_rename_52 ?_
          refine lv_aloadN hx hb d_Di_rename_55 (lv_at hl 1 rfl) ?_
          refine lv_ifnullN (tgt := 67) hx hb d_Di_rename_57 (by decide) ?_
          refine lv_bipush (v := -2) hx hb d_Di_rename_67 (by decide) ?_
          exact W.iret (v := (-2)) hx hb hr (fun t9 ht hW => ⟨(-2), h, rfl, ⟨hT, hkf, hTr⟩, by rw [ht]; exact hH, by rw [ht]; exact hz⟩) hLo d_Di_rename_69
      · skip
        have T_73 := c_70 q_72 rfl
        refine lv_astore (lv' := [(6, .ref q_72), (5, .ref q_42), (0, .ref x9), (1, .int a9), (2, .int b9), (3, .long w9)]) hx hb d_Di_rename_34 hl (by decide) rfl (fun ls hl => ?_)
        refine lv_lload_n hx hb d_Di_rename_36 rfl (lv_at hl 5 rfl) ?_
        refine hm_callPl (va_runS (As := [.long w9]) (rest := []) ⟨hx, hb, hml, hown, hts⟩ (t_nameIn l D t G ak av h τ n w9  hn hT ) ⟨cw9B 1 hts mw_452 mw_453 mw_25 rfl rfl (by decide +kernel) ⟨Nat.le_of_ble_eq_true rfl, Nat.le_of_ble_eq_true rfl⟩, hts _ mw_454⟩ (hP_S kE_ok hE hH) rfl rfl hl.1 rfl (lv_room (Nat.le_of_ble_eq_true rfl)) d_Di_rename_37 ⟨Nat.le_of_ble_eq_true rfl, Nat.le_of_ble_eq_true rfl⟩) (fun r_97 h_98 H_99 hp_101  hH z_100 => ?_)
        have hz : s.heap.size ≤ H_99.size := Nat.le_trans hz z_100
        obtain rfl := hp_101
        refine lv_lstore (lv' := [(7, .long r_97), (6, .ref q_72), (5, .ref q_42), (0, .ref x9), (1, .int a9), (2, .int b9), (3, .long w9)]) hx hb d_Di_rename_40 hl (by decide) rfl (fun ls hl => ?_)
        refine lv_aload hx hb d_Di_rename_42 (lv_at hl 2 rfl) ?_
        refine lv_ifnull hx hb d_Di_rename_44 ?_
        refine lv_aload hx hb d_Di_rename_47 (lv_at hl 2 rfl) ?_
        obtain ⟨v_103, v_104, v_106, v_108, v_109, v_111, v_112, v_113, v_115, v_116, v_117, F_q_42, c_105, c_107, c_110, c_114⟩ := TI_node hT T_43
        refine hm_get (ci := 1) (v := va_rf v_104) (C := R_No) (T := F_No) (N := 11) hx hb hts ig_No hown hK hH F_q_42 rfl 1 (by decide) (hts _ mw_471) (fun _ h9 => h9) rfl d_Di_rename_49 ?_
        rcases v_104 with _ | q_118
        · skip
          refine lv_ifnullN (tgt := 67) hx hb d_Di_rename_52 (by decide) ?_
          refine lv_bipush (v := -2) hx hb d_Di_rename_67 (by decide) ?_
          exact W.iret (v := (-2)) hx hb hr (fun t9 ht hW => ⟨(-2), h, rfl, ⟨hT, hkf, hTr⟩, by rw [ht]; exact hH, by rw [ht]; exact hz⟩) hLo d_Di_rename_69
        · skip
          have T_119 := c_105 q_118 rfl
          refine lv_ifnull hx hb d_Di_rename_52 ?_
          refine lv_aload hx hb d_Di_rename_55 (lv_at hl 1 rfl) ?_
          refine lv_ifnull hx hb d_Di_rename_57 ?_
          refine lv_lload hx hb d_Di_rename_60 (lv_at hl 0 rfl) ?_
          refine lv_lconst (v := 0) hx hb d_Di_rename_62 (by decide) ?_
          refine W.lcmp hx hb d_Di_rename_63 ?_
          refine lv_if_ne (tgt := 70) hx hb d_Di_rename_64 (by decide) (fun hc_120 => ?_) (fun hc_120 => ?_)
          · skip
            refine lv_aload hx hb d_Di_rename_70 (lv_at hl 1 rfl) ?_
            refine lv_aload hx hb d_Di_rename_72 (lv_at hl 2 rfl) ?_
            obtain ⟨v_121, v_122, v_124, v_126, v_127, v_129, v_130, v_131, v_133, v_134, v_135, F_q_72, c_123, c_125, c_128, c_132⟩ := TI_node hT T_73
            refine hm_callPi (va_runV (As := [.ref q_42]) (b := q_72) (rest := []) ⟨hx, hb, hml, hown, hts⟩ (t_within l D t G ak av h τ n 0 q_72 q_42  hn hT T_73 T_43 (ndl_ch (xp_71 q_72 rfl) (hTr _ T_P))) ⟨cw9B 1 hts mw_139 mw_480 mw_106 rfl rfl (by decide +kernel) ⟨Nat.le_of_ble_eq_true rfl, Nat.le_of_ble_eq_true rfl⟩, hts _ mw_141, hts _ mw_142⟩ (hP_V (q := (R_No, F_No, 11)) kE_ok hE hK hH F_q_72 rfl) rfl rfl hl.1 rfl (lv_room (Nat.le_of_ble_eq_true rfl)) d_Di_rename_74 ⟨Nat.le_of_ble_eq_true rfl, Nat.le_of_ble_eq_true rfl⟩) (fun r_136 h_137 H_138 hp_140  hH z_139 => ?_)
            have hz : s.heap.size ≤ H_138.size := Nat.le_trans hz z_139
            obtain ⟨c_141, xp_142, rfl⟩ := hp_140
            rcases c_141 with rfl | rfl
            · skip
              obtain ⟨kN, hChN⟩ := xp_142 rfl
              refine lv_if_eq (tgt := 83) hx hb d_Di_rename_77 (by decide) (fun hc_143 => ?_) (fun hc_143 => absurd hc_143 (by decide))
              refine lv_aload hx hb d_Di_rename_83 (lv_at hl 1 rfl) ?_
              refine hm_callPi (va_runV (As := []) (b := q_72) (rest := []) ⟨hx, hb, hml, hown, hts⟩ (t_depth l D t G ak av h τ n 0 q_72  hn hT T_73 (ndl_ch (xp_71 q_72 rfl) (hTr _ T_P))) ⟨cw9B 0 hts mw_143 mw_466 mw_106 rfl rfl (by decide +kernel) ⟨Nat.le_of_ble_eq_true rfl, Nat.le_of_ble_eq_true rfl⟩, hts _ mw_145, hts _ mw_146⟩ (hP_V (q := (R_No, F_No, 11)) kE_ok hE hK hH F_q_72 rfl) rfl rfl hl.1 rfl (lv_room (Nat.le_of_ble_eq_true rfl)) d_Di_rename_85 ⟨Nat.le_of_ble_eq_true rfl, Nat.le_of_ble_eq_true rfl⟩) (fun r_144 h_145 H_146 hp_148  hH z_147 => ?_)
              have hz : s.heap.size ≤ H_146.size := Nat.le_trans hz z_147
              obtain rfl := hp_148
              refine lv_aload_n hx hb d_Di_rename_88 rfl (lv_at hl 3 rfl) ?_
              refine hm_get (ci := 8) (v := .ref v_5) (C := R_Di) (T := F_Di) (N := 9) hx hb hts ig_Di hown hK hH F_x9 rfl 2 (by decide) (hts _ mw_443) (fun _ h9 => h9) rfl d_Di_rename_89 ?_
              refine lv_aload hx hb d_Di_rename_92 (lv_at hl 2 rfl) ?_
              refine hm_callPi (va_runV (As := [.ref q_42]) (b := v_5) (rest := [.int r_144]) ⟨hx, hb, hml, hown, hts⟩ (t_levels l D t G ak av h τ n 0 v_5 q_42  hn hT c_6 T_43 (hTr _ T_P) (ndl_ch (xp_41.1 q_42 rfl) (hTr _ T_P))) ⟨cw9B 1 hts mw_481 mw_482 mw_132 rfl rfl (by decide +kernel) ⟨Nat.le_of_ble_eq_true rfl, Nat.le_of_ble_eq_true rfl⟩, hts _ mw_483, hts _ mw_484⟩ (hP_V (q := (R_Ns, F_Ns, 4)) kE_ok hE hK hH F_v_5 rfl) rfl rfl hl.1 rfl (lv_room (Nat.le_of_ble_eq_true rfl)) d_Di_rename_94 ⟨Nat.le_of_ble_eq_true rfl, Nat.le_of_ble_eq_true rfl⟩) (fun r_150 h_151 H_152 hp_154  hH z_153 => ?_)
              have hz : s.heap.size ≤ H_152.size := Nat.le_trans hz z_153
              obtain rfl := hp_154
              refine lv_iadd hx hb d_Di_rename_97 ?_
              refine lv_bipush (v := 6) hx hb d_Di_rename_98 (by decide) ?_
              refine lv_icmp_le (tgt := 106) hx hb d_Di_rename_100 (by decide) (fun hc_156 => ?_) (fun hc_156 => ?_)
              · skip
                have ic_157 : (r_144 + r_150).toInt ≤ 6 := iLe hc_156
                refine lv_aload_n hx hb d_Di_rename_106 rfl (lv_at hl 3 rfl) ?_
                refine hm_get (ci := 8) (v := .ref v_5) (C := R_Di) (T := F_Di) (N := 9) hx hb hts ig_Di hown hK hH F_x9 rfl 2 (by decide) (hts _ mw_443) (fun _ h9 => h9) rfl d_Di_rename_107 ?_
                refine lv_aload hx hb d_Di_rename_110 (lv_at hl 1 rfl) ?_
                refine lv_lload hx hb d_Di_rename_112 (lv_at hl 0 rfl) ?_
                refine lv_aload hx hb d_Di_rename_114 (lv_at hl 2 rfl) ?_
                refine hm_callPi (va_runV (As := [.ref q_72, .long r_97, .ref q_42]) (b := v_5) (rest := []) ⟨hx, hb, hml, hown, hts⟩ (t_other1 l D t G ak av h τ n 0 v_5 q_72 r_97 q_42  hn hT c_6 T_73 T_43) ⟨cw9B 3 hts mw_455 mw_456 mw_132 rfl rfl (by decide +kernel) ⟨Nat.le_of_ble_eq_true rfl, Nat.le_of_ble_eq_true rfl⟩, hts _ mw_457, hts _ mw_458⟩ (hP_V (q := (R_Ns, F_Ns, 4)) kE_ok hE hK hH F_v_5 rfl) rfl rfl hl.1 rfl (lv_room (Nat.le_of_ble_eq_true rfl)) d_Di_rename_116 ⟨Nat.le_of_ble_eq_true rfl, Nat.le_of_ble_eq_true rfl⟩) (fun r_158 h_159 H_160 hp_162  hH z_161 => ?_)
                have hz : s.heap.size ≤ H_160.size := Nat.le_trans hz z_161
                obtain ⟨c_163, rfl⟩ := hp_162
                refine lv_if_eq (tgt := 125) hx hb d_Di_rename_119 (by decide) (fun hc_165 => ?_) (fun hc_165 => ?_)
                · skip
                  have ic_166 : r_158.toInt = 0 := congrArg Int32.toInt hc_165
                  refine lv_aload hx hb d_Di_rename_125 (lv_at hl 2 rfl) ?_
                  refine lv_aload hx hb d_Di_rename_127 (lv_at hl 1 rfl) ?_
                  have hIm := hT
                  refine hm_put (ci := 1) (v := .ref q_72) (ty := (.object "WriteOnceDisc$Node")) (C := R_No) (T := F_No) (N := 11) hx hb hts ig_No t_No tk_No nm_No hown hK hH hLo F_q_42 rfl 1 (by decide) (hts _ mw_471) (fun _ h9 => h9) rfl (by decide +kernel) rfl rfl (Nat.le_of_ble_eq_true rfl) d_Di_rename_129 (fun H_167 locs hH z_168 hLo => ?_)
                  have hz : s.heap.size ≤ H_167.size := by rw [z_168]; exact hz
                  obtain ⟨h_169, e_170⟩ : ∃ z, z = hu h q_42 (.inr (1, [.int v_103, .ref q_72, .int v_106, .long v_108, .int v_109, .int v_111, .int v_112, .int v_113, .int v_115, .int v_116, .int v_117])) := ⟨_, rfl⟩
                  have hH : hm D vwCl G h_169 H_167 := by rw [e_170]; exact hH
                  have F_x9 : h_169 x9 = some (.inr (8, [.ref v_1, .ref v_3, .ref v_5, .ref v_7, va_rf v_9, .int v_11, .int v_12, .ref v_14, .ref v_16])) := by rw [e_170, hu_n (tne T_x9 T_43 (by decide))]; exact F_x9
                  have F_v_1 : h_169 v_1 = some (.inr (7, [.ref v_18, .ref v_20])) := by rw [e_170, hu_n (tne c_2 T_43 (by decide))]; exact F_v_1
                  have F_v_18 : h_169 v_18 = some (.inr (4, [.int v_22, .int v_23, .int v_25])) := by rw [e_170, hu_n (tne c_19 T_43 (by decide))]; exact F_v_18
                  have F_v_5 : h_169 v_5 = some (.inr (2, [.ref v_28, .ref v_30, .int v_32, .int v_34])) := by rw [e_170, hu_n (tne c_6 T_43 (by decide))]; exact F_v_5
                  have F_q_42 : h_169 q_42 = some (.inr (1, [.int v_103, .ref q_72, .int v_106, .long v_108, .int v_109, .int v_111, .int v_112, .int v_113, .int v_115, .int v_116, .int v_117])) := by rw [e_170]; exact hu_s _ _ _
                  have hT : TI τ t n h_169 := by rw [e_170]; exact TI_put hT T_43 (by decide) ⟨v_103, some q_72, v_106, v_108, v_109, v_111, v_112, v_113, v_115, v_116, v_117, rfl, (fun _ h9 => by cases h9; exact T_73), c_107, c_110, c_114⟩
                  have hkf : kf τ [(10, 0)] [] h h_169 := by rw [e_170]; exact kf_put hkf T_43 List.mem_cons_self
                  have hTr : ∀ P, τ P = (7, 0) → TrP t h_169 P := fun P hP => by
                    obtain rfl := hU v_5 P T_P hP
                    exact TrP_move hIm T_P (hTr _ T_P) (ndl_lv (xp_71 q_72 rfl)) hChN T_43 e_170 F_q_42
                  refine lv_aload hx hb d_Di_rename_132 (lv_at hl 2 rfl) ?_
                  refine lv_lload hx hb d_Di_rename_134 (lv_at hl 0 rfl) ?_
                  refine hm_callv (va_runV (As := [.long r_97]) (b := q_42) (rest := []) ⟨hx, hb, hml, hown, hts⟩ (t_takeName l D t G ak av h_169 τ n 0 q_42 r_97  hn hT T_43) ⟨cw9B 1 hts mw_116 mw_485 mw_106 rfl rfl (by decide +kernel) ⟨Nat.le_of_ble_eq_true rfl, Nat.le_of_ble_eq_true rfl⟩, hts _ mw_118, hts _ mw_119⟩ (hP_V (q := (R_No, F_No, 11)) kE_ok hE hK hH F_q_42 rfl) rfl rfl hl.1 rfl (lv_room (Nat.le_of_ble_eq_true rfl)) d_Di_rename_136 ⟨Nat.le_of_ble_eq_true rfl, Nat.le_of_ble_eq_true rfl⟩) hLo (fun h_171 H_172 locs hp_174 hH z_173 hLo => ?_)
                  have hz : s.heap.size ≤ H_172.size := Nat.le_trans hz z_173
                  have hT0 := hT
                  obtain ⟨hT, kf_176, xk_177, xp_175⟩ := hp_174
                  have F_x9 : h_171 x9 = some (.inr (8, [.ref v_1, .ref v_3, .ref v_5, .ref v_7, va_rf v_9, .int v_11, .int v_12, .ref v_14, .ref v_16])) := kf_at kf_176 T_x9 (by decide) tn0 (nmc (tne T_x9 T_43 (by decide)) nm0) F_x9
                  have F_v_1 : h_171 v_1 = some (.inr (7, [.ref v_18, .ref v_20])) := kf_at kf_176 c_2 (by decide) tn0 (nmc (tne c_2 T_43 (by decide)) nm0) F_v_1
                  have F_v_18 : h_171 v_18 = some (.inr (4, [.int v_22, .int v_23, .int v_25])) := kf_at kf_176 c_19 (by decide) tn0 (nmc (tne c_19 T_43 (by decide)) nm0) F_v_18
                  have F_v_5 : h_171 v_5 = some (.inr (2, [.ref v_28, .ref v_30, .int v_32, .int v_34])) := kf_at kf_176 c_6 (by decide) tn0 (nmc (tne c_6 T_43 (by decide)) nm0) F_v_5
                  have hkf : kf τ [(10, 0)] [] h h_171 := kf_tr hkf kf_176 (List.forall_mem_nil _) (List.forall_mem_cons.mpr ⟨Or.inr (by rw [T_43]; exact List.mem_cons_self), List.forall_mem_nil _⟩)
                  have hTr : ∀ P, τ P = (7, 0) → TrP t h_171 P := fun P hP => TrP_same hT0 hP (hTr P hP) (kf_176 P (by rw [hP]; exact Nat.succ_ne_zero _) tn0 (nmc (tne hP T_43 (by decide)) nm0)) (fun s9 hs9 => kf_176 s9 (by rw [hs9]; exact Nat.succ_ne_zero _) tn0 (nmc (tne hs9 T_43 (by decide)) nm0)) xk_177
                  refine lv_iconst (v := 0) hx hb d_Di_rename_139 (by decide) ?_
                  exact W.iret (v := 0) hx hb hr (fun t9 ht hW => ⟨0, h_171, rfl, ⟨hT, hkf, hTr⟩, by rw [ht]; exact hH, by rw [ht]; exact hz⟩) hLo d_Di_rename_140
                · skip
                  refine lv_bipush (v := -5) hx hb d_Di_rename_122 (by decide) ?_
                  exact W.iret (v := (-5)) hx hb hr (fun t9 ht hW => ⟨(-5), h, rfl, ⟨hT, hkf, hTr⟩, by rw [ht]; exact hH, by rw [ht]; exact hz⟩) hLo d_Di_rename_124
              · skip
                have ic_178 : 6 < (r_144 + r_150).toInt := iNe hc_156
                have iu_179 : (r_144 + r_150).toInt < 2147483648 := iUp _
                refine lv_bipush (v := -2) hx hb d_Di_rename_103 (by decide) ?_
                exact W.iret (v := (-2)) hx hb hr (fun t9 ht hW => ⟨(-2), h, rfl, ⟨hT, hkf, hTr⟩, by rw [ht]; exact hH, by rw [ht]; exact hz⟩) hLo d_Di_rename_105
            · skip
              refine lv_if_eq (tgt := 83) hx hb d_Di_rename_77 (by decide) (fun hc_180 => absurd hc_180 (by decide)) (fun hc_180 => ?_)
              refine lv_bipush (v := -2) hx hb d_Di_rename_80 (by decide) ?_
              exact W.iret (v := (-2)) hx hb hr (fun t9 ht hW => ⟨(-2), h, rfl, ⟨hT, hkf, hTr⟩, by rw [ht]; exact hH, by rw [ht]; exact hz⟩) hLo d_Di_rename_82
          · skip
            refine lv_bipush (v := -2) hx hb d_Di_rename_67 (by decide) ?_
            exact W.iret (v := (-2)) hx hb hr (fun t9 ht hW => ⟨(-2), h, rfl, ⟨hT, hkf, hTr⟩, by rw [ht]; exact hH, by rw [ht]; exact hz⟩) hLo d_Di_rename_69
  · skip
    refine lv_bipush (v := -4) hx hb d_Di_rename_13 (by decide) ?_
    exact W.iret (v := (-4)) hx hb hr (fun t9 ht hW => ⟨(-4), h, rfl, ⟨hT, hkf, hTr⟩, by rw [ht]; exact hH, by rw [ht]; exact hz⟩) hLo d_Di_rename_15
