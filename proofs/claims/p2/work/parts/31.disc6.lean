set_option maxRecDepth 100000 in
theorem mw_495 : Cond.code y_Me_sectorOfMark b_Me_sectorOfMark 4 (some .int) ∈ lw_g := lw_gin (List.mem_append_right _ (List.mem_of_getElem? (i := 793) rfl)) (by decide +kernel)
set_option maxRecDepth 100000 in
theorem mw_496 : Cond.methodLink R_Di 198 y_Me_sectorOfMark ∈ lw_g := lw_gin (List.mem_append_right _ (List.mem_of_getElem? (i := 790) rfl)) (by decide +kernel)
set_option maxRecDepth 100000 in
theorem mw_497 : Cond.instanceMethod y_Me_sectorOfMark ∈ lw_g := lw_gin (List.mem_append_right _ (List.mem_of_getElem? (i := 791) rfl)) (by decide +kernel)
set_option maxRecDepth 100000 in
theorem mw_498 : Cond.selects R_Me y_Me_sectorOfMark y_Me_sectorOfMark ∈ lw_g := lw_gin (List.mem_append_right _ (List.mem_of_getElem? (i := 792) rfl)) (by decide +kernel)
set_option maxRecDepth 100000 in
theorem mw_499 : Cond.fieldLink R_Di 19 "WriteOnceDisc" "reader" "LWriteOnceDisc$Reader;" ∈ lw_g := lw_gin (List.mem_append_right _ (List.mem_of_getElem? (i := 237) rfl)) (by decide +kernel)
set_option maxRecDepth 100000 in
theorem mw_500 : Cond.methodLink R_Di 148 y_Me_markedBase ∈ lw_g := lw_gin (List.mem_append_right _ (List.mem_of_getElem? (i := 632) rfl)) (by decide +kernel)
set_option maxRecDepth 100000 in
theorem mw_501 : Cond.fieldLink R_Di 45 "WriteOnceDisc" "scratch" "LWriteOnceDisc$Nodes;" ∈ lw_g := lw_gin (List.mem_append_right _ (List.mem_of_getElem? (i := 244) rfl)) (by decide +kernel)
set_option maxRecDepth 100000 in
theorem mw_502 : Cond.code y_Re_countNodes b_Re_countNodes 6 (some .int) ∈ lw_g := lw_gin (List.mem_append_right _ (List.mem_of_getElem? (i := 636) rfl)) (by decide +kernel)
set_option maxRecDepth 100000 in
theorem mw_503 : Cond.methodLink R_Di 152 y_Re_countNodes ∈ lw_g := lw_gin (List.mem_append_right _ (List.mem_of_getElem? (i := 633) rfl)) (by decide +kernel)
set_option maxRecDepth 100000 in
theorem mw_504 : Cond.instanceMethod y_Re_countNodes ∈ lw_g := lw_gin (List.mem_append_right _ (List.mem_of_getElem? (i := 634) rfl)) (by decide +kernel)
set_option maxRecDepth 100000 in
theorem mw_505 : Cond.selects R_Re y_Re_countNodes y_Re_countNodes ∈ lw_g := lw_gin (List.mem_append_right _ (List.mem_of_getElem? (i := 635) rfl)) (by decide +kernel)
set_option maxRecDepth 100000 in
theorem mw_506 : Cond.constant R_Di 204 (-1000000) ∈ lw_g := lw_gin (List.mem_append_right _ (List.mem_of_getElem? (i := 795) rfl)) (by decide +kernel)
theorem d_Di_open_0 : decode b_Di_open 0 = .ok (.aload_n 0, 1) := by decide +kernel
theorem d_Di_open_1 : decode b_Di_open 1 = .ok (.getfield 53, 3) := by decide +kernel
theorem d_Di_open_4 : decode b_Di_open 4 = .ok (.iload_n 1, 1) := by decide +kernel
theorem d_Di_open_5 : decode b_Di_open 5 = .ok (.invokevirtual 198, 3) := by decide +kernel
theorem d_Di_open_8 : decode b_Di_open 8 = .ok (.istore_n 2, 1) := by decide +kernel
theorem d_Di_open_9 : decode b_Di_open 9 = .ok (.iload_n 2, 1) := by decide +kernel
theorem d_Di_open_10 : decode b_Di_open 10 = .ok (.iconst (-1), 1) := by decide +kernel
theorem d_Di_open_11 : decode b_Di_open 11 = .ok (.if_icmp .ne 6, 3) := by decide +kernel
theorem d_Di_open_17 : decode b_Di_open 17 = .ok (.aload_n 0, 1) := by decide +kernel
theorem d_Di_open_18 : decode b_Di_open 18 = .ok (.getfield 19, 3) := by decide +kernel
theorem d_Di_open_21 : decode b_Di_open 21 = .ok (.aload_n 0, 1) := by decide +kernel
theorem d_Di_open_22 : decode b_Di_open 22 = .ok (.getfield 53, 3) := by decide +kernel
theorem d_Di_open_25 : decode b_Di_open 25 = .ok (.aload_n 0, 1) := by decide +kernel
theorem d_Di_open_26 : decode b_Di_open 26 = .ok (.getfield 53, 3) := by decide +kernel
theorem d_Di_open_29 : decode b_Di_open 29 = .ok (.iload_n 2, 1) := by decide +kernel
theorem d_Di_open_30 : decode b_Di_open 30 = .ok (.invokevirtual 148, 3) := by decide +kernel
theorem d_Di_open_33 : decode b_Di_open 33 = .ok (.aload_n 0, 1) := by decide +kernel
theorem d_Di_open_34 : decode b_Di_open 34 = .ok (.getfield 45, 3) := by decide +kernel
theorem d_Di_open_37 : decode b_Di_open 37 = .ok (.invokevirtual 152, 3) := by decide +kernel
theorem d_Di_open_40 : decode b_Di_open 40 = .ok (.istore_n 3, 1) := by decide +kernel
theorem d_Di_open_41 : decode b_Di_open 41 = .ok (.aload_n 0, 1) := by decide +kernel
theorem d_Di_open_42 : decode b_Di_open 42 = .ok (.iload_n 3, 1) := by decide +kernel
theorem d_Di_open_43 : decode b_Di_open 43 = .ok (.ifCond .le 7, 3) := by decide +kernel
theorem d_Di_open_50 : decode b_Di_open 50 = .ok (.iconst 0, 1) := by decide +kernel
theorem d_Di_open_51 : decode b_Di_open 51 = .ok (.putfield 38, 3) := by decide +kernel
theorem d_Di_open_54 : decode b_Di_open 54 = .ok (.aload_n 0, 1) := by decide +kernel
theorem d_Di_open_55 : decode b_Di_open 55 = .ok (.getfield 38, 3) := by decide +kernel
theorem d_Di_open_58 : decode b_Di_open 58 = .ok (.ifCond .eq 23, 3) := by decide +kernel
theorem d_Di_open_81 : decode b_Di_open 81 = .ok (.iload_n 3, 1) := by decide +kernel
theorem d_Di_open_82 : decode b_Di_open 82 = .ok (.ireturn, 1) := by decide +kernel
theorem d_Di_open_46 : decode b_Di_open 46 = .ok (.iconst 1, 1) := by decide +kernel
theorem d_Di_open_47 : decode b_Di_open 47 = .ok (.goto 4, 3) := by decide +kernel
theorem d_Di_open_61 : decode b_Di_open 61 = .ok (.aload_n 0, 1) := by decide +kernel
theorem d_Di_open_62 : decode b_Di_open 62 = .ok (.getfield 42, 3) := by decide +kernel
theorem d_Di_open_65 : decode b_Di_open 65 = .ok (.astore 4, 2) := by decide +kernel
theorem d_Di_open_67 : decode b_Di_open 67 = .ok (.aload_n 0, 1) := by decide +kernel
theorem d_Di_open_68 : decode b_Di_open 68 = .ok (.aload_n 0, 1) := by decide +kernel
theorem d_Di_open_69 : decode b_Di_open 69 = .ok (.getfield 45, 3) := by decide +kernel
theorem d_Di_open_72 : decode b_Di_open 72 = .ok (.putfield 42, 3) := by decide +kernel
theorem d_Di_open_75 : decode b_Di_open 75 = .ok (.aload_n 0, 1) := by decide +kernel
theorem d_Di_open_76 : decode b_Di_open 76 = .ok (.aload 4, 2) := by decide +kernel
theorem d_Di_open_78 : decode b_Di_open 78 = .ok (.putfield 45, 3) := by decide +kernel
theorem d_Di_open_14 : decode b_Di_open 14 = .ok (.ldc 204, 2) := by decide +kernel
theorem d_Di_open_16 : decode b_Di_open 16 = .ok (.ireturn, 1) := by decide +kernel
set_option maxHeartbeats 4000000 in
set_option maxRecDepth 100000 in
theorem x_open (l : Launch) (D : va_G) (t : Nat → ClassId) (G : hG) (ak av : Nat → Nat) (h : hM) (τ : tM) (n : Nat) (x9 : Nat) (a9 : Int32) (hn : n ≤ 200) (hT : TI τ t n h) (T_x9 : τ x9 = (1, 0)) : Met l y_Di_open (.code y_Di_open b_Di_open 5 (some .int) :: lw_g) { frames := 10, cells := 0, slots := 0, locals := 229 } (hP (kE D t G ak av) D vwCl G h [.ref x9, .int a9]) (hQi D vwCl G (fun r h' => TI τ t n h' ∧ kf τ [(10, 1), (10, 2), (5, 1), (7, 1), (6, 0), (1, 0)] [] h h' ∧ spz h' x9 = spz h x9)) 0 0 G.P := by
  refine Met.ofW (cc := b_Di_open) (maxL := 5) (ret := (some .int)) (by decide) rfl ?_
  intro p e s m args below meth c s₁ Bd hml hv
  obtain ⟨ha, hE, hH⟩ := hv
  have hx := Bd.exec
  have hb := Bd.bytes
  have hr := Bd.returns
  have hts : ∀ w ∈ lw_g, w.before args s = true := fun w hw => atoms_spec (ws := (.code y_Di_open b_Di_open 5 (some .int) :: lw_g)) Bd.pre w (List.mem_cons_of_mem _ hw)
  have hown : s.vm.findClass R_Di = some m.cls := findClass_of_methodNamed Bd.named
  have hlocks := Bd.notSynchronized
  have hK := hE.1
  have hH0 := hH
  have hLo : hLc G.P [] := hLc_nil
  have hz : s.heap.size ≤ s.heap.size := Nat.le_refl _
  have hl := lv_entry [.ref x9, .int a9] (n := 5) (Nat.le_of_ble_eq_true rfl)
  rw [show entryFrame m args 5 = F0 m 0 ((lg_sl [.ref x9, .int a9] ++ List.replicate (5 - (lg_sl [.ref x9, .int a9]).length) Slot.unset).toArray) [] from (by rw [ha]; exact lg_entry_eq m [.ref x9, .int a9] 5)]
  generalize (lg_sl [.ref x9, .int a9] ++ List.replicate (5 - (lg_sl [.ref x9, .int a9]).length) Slot.unset).toArray = ls at hl ⊢
  have hl : lv_has ls 5 [(0, .ref x9), (1, .int a9)] := hl
  have hkf : kf τ [(10, 1), (10, 2), (5, 1), (7, 1), (6, 0), (1, 0)] [] h h := kf_rf
  have hsp : spz h x9 = spz h x9 := rfl
  refine lv_aload_n hx hb d_Di_open_0 rfl (lv_at hl 0 rfl) ?_
  obtain ⟨v_1, v_3, v_5, v_7, v_9, v_11, v_12, v_14, v_16, F_x9, c_2, c_4, c_6, c_8, c_10, c_13, c_15, c_17⟩ := TI_disc hT T_x9
  refine hm_get (ci := 8) (v := .ref v_7) (C := R_Di) (T := F_Di) (N := 9) hx hb hts ig_Di hown hK hH F_x9 rfl 3 (by decide) (hts _ mw_425) (fun _ h9 => h9) rfl d_Di_open_1 ?_
  refine lv_iload_n hx hb d_Di_open_4 rfl (lv_at hl 1 rfl) ?_
  obtain ⟨v_18, v_20, F_v_7, c_19⟩ := TI_med hT c_8
  refine hm_callPi (va_runV (As := [.int a9]) (b := v_7) (rest := []) ⟨hx, hb, hml, hown, hts⟩ (t_sMark l D t G ak av h τ n v_7 a9  hn hT c_8) ⟨cw9B 1 hts mw_495 mw_496 mw_32 rfl rfl (by decide +kernel) ⟨Nat.le_of_ble_eq_true rfl, Nat.le_of_ble_eq_true rfl⟩, hts _ mw_497, hts _ mw_498⟩ (hP_V (q := (R_Me, F_Me, 2)) kE_ok hE hK hH F_v_7 rfl) rfl rfl hl.1 rfl (lv_room (Nat.le_of_ble_eq_true rfl)) d_Di_open_5 ⟨Nat.le_of_ble_eq_true rfl, Nat.le_of_ble_eq_true rfl⟩) (fun r_21 h_22 H_23 hp_25  hH z_24 => ?_)
  have hz : s.heap.size ≤ H_23.size := Nat.le_trans hz z_24
  obtain rfl := hp_25
  refine lv_istore_n (lv' := [(2, .int r_21), (0, .ref x9), (1, .int a9)]) hx hb d_Di_open_8 rfl hl (by decide) rfl (fun ls hl => ?_)
  refine lv_iload_n hx hb d_Di_open_9 rfl (lv_at hl 0 rfl) ?_
  refine lv_iconst (v := -1) hx hb d_Di_open_10 (by decide) ?_
  refine lv_icmp_ne (tgt := 17) hx hb d_Di_open_11 (by decide) (fun hc_27 => ?_) (fun hc_27 => ?_)
  · skip
    refine lv_aload_n hx hb d_Di_open_17 rfl (lv_at hl 1 rfl) ?_
    refine hm_get (ci := 8) (v := .ref v_3) (C := R_Di) (T := F_Di) (N := 9) hx hb hts ig_Di hown hK hH F_x9 rfl 1 (by decide) (hts _ mw_499) (fun _ h9 => h9) rfl d_Di_open_18 ?_
    refine lv_aload_n hx hb d_Di_open_21 rfl (lv_at hl 1 rfl) ?_
    refine hm_get (ci := 8) (v := .ref v_7) (C := R_Di) (T := F_Di) (N := 9) hx hb hts ig_Di hown hK hH F_x9 rfl 3 (by decide) (hts _ mw_425) (fun _ h9 => h9) rfl d_Di_open_22 ?_
    refine lv_aload_n hx hb d_Di_open_25 rfl (lv_at hl 1 rfl) ?_
    refine hm_get (ci := 8) (v := .ref v_7) (C := R_Di) (T := F_Di) (N := 9) hx hb hts ig_Di hown hK hH F_x9 rfl 3 (by decide) (hts _ mw_425) (fun _ h9 => h9) rfl d_Di_open_26 ?_
    refine lv_iload_n hx hb d_Di_open_29 rfl (lv_at hl 0 rfl) ?_
    refine hm_callPi (va_runV (As := [.int r_21]) (b := v_7) (rest := [.ref v_7, .ref v_3]) ⟨hx, hb, hml, hown, hts⟩ (t_mBase l D t G ak av h τ n v_7 r_21  hn hT c_8) ⟨cw9B 1 hts mw_60 mw_500 mw_32 rfl rfl (by decide +kernel) ⟨Nat.le_of_ble_eq_true rfl, Nat.le_of_ble_eq_true rfl⟩, hts _ mw_62, hts _ mw_63⟩ (hP_V (q := (R_Me, F_Me, 2)) kE_ok hE hK hH F_v_7 rfl) rfl rfl hl.1 rfl (lv_room (Nat.le_of_ble_eq_true rfl)) d_Di_open_30 ⟨Nat.le_of_ble_eq_true rfl, Nat.le_of_ble_eq_true rfl⟩) (fun r_28 h_29 H_30 hp_32  hH z_31 => ?_)
    have hz : s.heap.size ≤ H_30.size := Nat.le_trans hz z_31
    obtain rfl := hp_32
    refine lv_aload_n hx hb d_Di_open_33 rfl (lv_at hl 1 rfl) ?_
    refine hm_get (ci := 8) (v := .ref v_16) (C := R_Di) (T := F_Di) (N := 9) hx hb hts ig_Di hown hK hH F_x9 rfl 8 (by decide) (hts _ mw_501) (fun _ h9 => h9) rfl d_Di_open_34 ?_
    obtain ⟨v_34, v_36, v_38, v_40, v_42, F_v_3, c_35, c_37, c_39, c_41⟩ := TI_rdr hT c_4
    refine hm_calli (va_runV (As := [.ref v_7, .int r_28, .ref v_16]) (b := v_3) (rest := []) ⟨hx, hb, hml, hown, hts⟩ (t_count l D t G ak av h τ n v_3 v_7 r_28 v_16  hn hT c_4 c_8 c_17) ⟨cw9B 3 hts mw_502 mw_503 mw_332 rfl rfl (by decide +kernel) ⟨Nat.le_of_ble_eq_true rfl, Nat.le_of_ble_eq_true rfl⟩, hts _ mw_504, hts _ mw_505⟩ (hP_V (q := (R_Re, F_Re, 5)) kE_ok hE hK hH F_v_3 rfl) rfl rfl hl.1 rfl (lv_room (Nat.le_of_ble_eq_true rfl)) d_Di_open_37 ⟨Nat.le_of_ble_eq_true rfl, Nat.le_of_ble_eq_true rfl⟩) hLo (fun r_43 h_44 H_45 locs hp_47 hH z_46 hLo => ?_)
    have hz : s.heap.size ≤ H_45.size := Nat.le_trans hz z_46
    have hT0 := hT
    obtain ⟨hT, kf_49, xp_48⟩ := hp_47
    have F_x9 : h_44 x9 = some (.inr (8, [.ref v_1, .ref v_3, .ref v_5, .ref v_7, va_rf v_9, .int v_11, .int v_12, .ref v_14, .ref v_16])) := kf_at kf_49 T_x9 (by decide) (tnc (by decide) (tnc (by decide) (tnc (by decide) (tnc (by decide) tn0)))) (nmc (tne T_x9 c_4 (by decide)) nm0) F_x9
    have F_v_7 : h_44 v_7 = some (.inr (0, [.ref v_18, .int v_20])) := kf_at kf_49 c_8 (by decide) (tnc (by decide) (tnc (by decide) (tnc (by decide) (tnc (by decide) tn0)))) (nmc (tne c_8 c_4 (by decide)) nm0) F_v_7
    have hsp : spz h_44 x9 = spz h x9 := spz_kf hsp kf_49 T_x9 (tnc (by decide) (tnc (by decide) (tnc (by decide) (tnc (by decide) tn0)))) (List.forall_mem_cons.mpr ⟨(fun z => by have := z.symm.trans c_4; simp at this), List.forall_mem_nil _⟩)
    have hkf : kf τ [(10, 1), (10, 2), (5, 1), (7, 1), (6, 0), (1, 0)] [] h h_44 := kf_tr hkf kf_49 (List.forall_mem_cons.mpr ⟨List.mem_cons_self, List.forall_mem_cons.mpr ⟨(List.mem_cons_of_mem _ List.mem_cons_self), List.forall_mem_cons.mpr ⟨(List.mem_cons_of_mem _ (List.mem_cons_of_mem _ List.mem_cons_self)), List.forall_mem_cons.mpr ⟨(List.mem_cons_of_mem _ (List.mem_cons_of_mem _ (List.mem_cons_of_mem _ List.mem_cons_self))), List.forall_mem_nil _⟩⟩⟩⟩) (List.forall_mem_cons.mpr ⟨Or.inr (by rw [c_4]; exact (List.mem_cons_of_mem _ (List.mem_cons_of_mem _ (List.mem_cons_of_mem _ (List.mem_cons_of_mem _ List.mem_cons_self))))), List.forall_mem_nil _⟩)
    refine lv_istore_n (lv' := [(3, .int r_43), (2, .int r_21), (0, .ref x9), (1, .int a9)]) hx hb d_Di_open_40 rfl hl (by decide) rfl (fun ls hl => ?_)
    refine lv_aload_n hx hb d_Di_open_41 rfl (lv_at hl 2 rfl) ?_
    refine lv_iload_n hx hb d_Di_open_42 rfl (lv_at hl 0 rfl) ?_
    refine lv_if_le (tgt := 50) hx hb d_Di_open_43 (by decide) (fun hc_50 => ?_) (fun hc_50 => ?_)
    · skip
      have ic_51 : r_43.toInt ≤ 0 := iLe hc_50
      refine lv_iconst (v := 0) hx hb d_Di_open_50 (by decide) ?_
      refine hm_put (ci := 8) (v := .int 0) (ty := .boolean) (C := R_Di) (T := F_Di) (N := 9) hx hb hts ig_Di t_Di tk_Di nm_Di hown hK hH hLo F_x9 rfl 6 (by decide) (hts _ mw_450) (fun _ h9 => h9) rfl (by decide +kernel) (by decide) (by decide) (Nat.le_of_ble_eq_true rfl) d_Di_open_51 (fun H_52 locs hH z_53 hLo => ?_)
      have hz : s.heap.size ≤ H_52.size := by rw [z_53]; exact hz
      obtain ⟨h_54, e_55⟩ : ∃ z, z = hu h_44 x9 (.inr (8, [.ref v_1, .ref v_3, .ref v_5, .ref v_7, va_rf v_9, .int v_11, .int 0, .ref v_14, .ref v_16])) := ⟨_, rfl⟩
      have hH : hm D vwCl G h_54 H_52 := by rw [e_55]; exact hH
      have F_v_7 : h_54 v_7 = some (.inr (0, [.ref v_18, .int v_20])) := by rw [e_55, hu_n (tne c_8 T_x9 (by decide))]; exact F_v_7
      have hOld := F_x9
      have F_x9 : h_54 x9 = some (.inr (8, [.ref v_1, .ref v_3, .ref v_5, .ref v_7, va_rf v_9, .int v_11, .int 0, .ref v_14, .ref v_16])) := by rw [e_55]; exact hu_s _ _ _
      have hT : TI τ t n h_54 := by rw [e_55]; exact TI_put hT T_x9 (by decide) ⟨v_1, v_3, v_5, v_7, v_9, v_11, 0, v_14, v_16, rfl, c_2, c_4, c_6, c_8, c_10, zb0, c_15, c_17⟩
      have hkf : kf τ [(10, 1), (10, 2), (5, 1), (7, 1), (6, 0), (1, 0)] [] h h_54 := by rw [e_55]; exact kf_put hkf T_x9 (List.mem_cons_of_mem _ (List.mem_cons_of_mem _ (List.mem_cons_of_mem _ (List.mem_cons_of_mem _ (List.mem_cons_of_mem _ List.mem_cons_self)))))
      have hsp : spz h_54 x9 = spz h x9 := by rw [e_55]; exact spz_put hsp hOld
      refine lv_aload_n hx hb d_Di_open_54 rfl (lv_at hl 2 rfl) ?_
      refine hm_get (ci := 8) (v := .int 0) (C := R_Di) (T := F_Di) (N := 9) hx hb hts ig_Di hown hK hH F_x9 rfl 6 (by decide) (hts _ mw_450) (fun _ h9 => h9) rfl d_Di_open_55 ?_
      refine lv_if_eq (tgt := 81) hx hb d_Di_open_58 (by decide) (fun hc_56 => ?_) (fun hc_56 => absurd hc_56 (by decide))
      refine lv_iload_n hx hb d_Di_open_81 rfl (lv_at hl 0 rfl) ?_
      exact W.iret (v := r_43) hx hb hr (fun t9 ht hW => ⟨r_43, h_54, rfl, ⟨hT, hkf, hsp⟩, by rw [ht]; exact hH, by rw [ht]; exact hz⟩) hLo d_Di_open_82
    · skip
      have ic_57 : 0 < r_43.toInt := iNe hc_50
      have iu_58 : r_43.toInt < 2147483648 := iUp _
      refine lv_iconst (v := 1) hx hb d_Di_open_46 (by decide) ?_
      refine lv_goto (tgt := 51) hx hb d_Di_open_47 (by decide) ?_
      refine hm_put (ci := 8) (v := .int 1) (ty := .boolean) (C := R_Di) (T := F_Di) (N := 9) hx hb hts ig_Di t_Di tk_Di nm_Di hown hK hH hLo F_x9 rfl 6 (by decide) (hts _ mw_450) (fun _ h9 => h9) rfl (by decide +kernel) (by decide) (by decide) (Nat.le_of_ble_eq_true rfl) d_Di_open_51 (fun H_59 locs hH z_60 hLo => ?_)
      have hz : s.heap.size ≤ H_59.size := by rw [z_60]; exact hz
      obtain ⟨h_61, e_62⟩ : ∃ z, z = hu h_44 x9 (.inr (8, [.ref v_1, .ref v_3, .ref v_5, .ref v_7, va_rf v_9, .int v_11, .int 1, .ref v_14, .ref v_16])) := ⟨_, rfl⟩
      have hH : hm D vwCl G h_61 H_59 := by rw [e_62]; exact hH
      have F_v_7 : h_61 v_7 = some (.inr (0, [.ref v_18, .int v_20])) := by rw [e_62, hu_n (tne c_8 T_x9 (by decide))]; exact F_v_7
      have hOld := F_x9
      have F_x9 : h_61 x9 = some (.inr (8, [.ref v_1, .ref v_3, .ref v_5, .ref v_7, va_rf v_9, .int v_11, .int 1, .ref v_14, .ref v_16])) := by rw [e_62]; exact hu_s _ _ _
      have hT : TI τ t n h_61 := by rw [e_62]; exact TI_put hT T_x9 (by decide) ⟨v_1, v_3, v_5, v_7, v_9, v_11, 1, v_14, v_16, rfl, c_2, c_4, c_6, c_8, c_10, zb1, c_15, c_17⟩
      have hkf : kf τ [(10, 1), (10, 2), (5, 1), (7, 1), (6, 0), (1, 0)] [] h h_61 := by rw [e_62]; exact kf_put hkf T_x9 (List.mem_cons_of_mem _ (List.mem_cons_of_mem _ (List.mem_cons_of_mem _ (List.mem_cons_of_mem _ (List.mem_cons_of_mem _ List.mem_cons_self)))))
      have hsp : spz h_61 x9 = spz h x9 := by rw [e_62]; exact spz_put hsp hOld
      refine lv_aload_n hx hb d_Di_open_54 rfl (lv_at hl 2 rfl) ?_
      refine hm_get (ci := 8) (v := .int 1) (C := R_Di) (T := F_Di) (N := 9) hx hb hts ig_Di hown hK hH F_x9 rfl 6 (by decide) (hts _ mw_450) (fun _ h9 => h9) rfl d_Di_open_55 ?_
      refine lv_if_eq (tgt := 81) hx hb d_Di_open_58 (by decide) (fun hc_63 => absurd hc_63 (by decide)) (fun hc_63 => ?_)
      refine lv_aload_n hx hb d_Di_open_61 rfl (lv_at hl 2 rfl) ?_
      refine hm_get (ci := 8) (v := .ref v_14) (C := R_Di) (T := F_Di) (N := 9) hx hb hts ig_Di hown hK hH F_x9 rfl 7 (by decide) (hts _ mw_451) (fun _ h9 => h9) rfl d_Di_open_62 ?_
      refine lv_astore (lv' := [(4, .ref v_14), (3, .int r_43), (2, .int r_21), (0, .ref x9), (1, .int a9)]) hx hb d_Di_open_65 hl (by decide) rfl (fun ls hl => ?_)
      refine lv_aload_n hx hb d_Di_open_67 rfl (lv_at hl 3 rfl) ?_
      refine lv_aload_n hx hb d_Di_open_68 rfl (lv_at hl 3 rfl) ?_
      refine hm_get (ci := 8) (v := .ref v_16) (C := R_Di) (T := F_Di) (N := 9) hx hb hts ig_Di hown hK hH F_x9 rfl 8 (by decide) (hts _ mw_501) (fun _ h9 => h9) rfl d_Di_open_69 ?_
      refine hm_put (ci := 8) (v := .ref v_16) (ty := (.object "WriteOnceDisc$Nodes")) (C := R_Di) (T := F_Di) (N := 9) hx hb hts ig_Di t_Di tk_Di nm_Di hown hK hH hLo F_x9 rfl 7 (by decide) (hts _ mw_451) (fun _ h9 => h9) rfl (by decide +kernel) rfl rfl (Nat.le_of_ble_eq_true rfl) d_Di_open_72 (fun H_64 locs hH z_65 hLo => ?_)
      have hz : s.heap.size ≤ H_64.size := by rw [z_65]; exact hz
      obtain ⟨h_66, e_67⟩ : ∃ z, z = hu h_61 x9 (.inr (8, [.ref v_1, .ref v_3, .ref v_5, .ref v_7, va_rf v_9, .int v_11, .int 1, .ref v_16, .ref v_16])) := ⟨_, rfl⟩
      have hH : hm D vwCl G h_66 H_64 := by rw [e_67]; exact hH
      have F_v_7 : h_66 v_7 = some (.inr (0, [.ref v_18, .int v_20])) := by rw [e_67, hu_n (tne c_8 T_x9 (by decide))]; exact F_v_7
      have hOld := F_x9
      have F_x9 : h_66 x9 = some (.inr (8, [.ref v_1, .ref v_3, .ref v_5, .ref v_7, va_rf v_9, .int v_11, .int 1, .ref v_16, .ref v_16])) := by rw [e_67]; exact hu_s _ _ _
      have hT : TI τ t n h_66 := by rw [e_67]; exact TI_put hT T_x9 (by decide) ⟨v_1, v_3, v_5, v_7, v_9, v_11, 1, v_16, v_16, rfl, c_2, c_4, c_6, c_8, c_10, zb1, c_17, c_17⟩
      have hkf : kf τ [(10, 1), (10, 2), (5, 1), (7, 1), (6, 0), (1, 0)] [] h h_66 := by rw [e_67]; exact kf_put hkf T_x9 (List.mem_cons_of_mem _ (List.mem_cons_of_mem _ (List.mem_cons_of_mem _ (List.mem_cons_of_mem _ (List.mem_cons_of_mem _ List.mem_cons_self)))))
      have hsp : spz h_66 x9 = spz h x9 := by rw [e_67]; exact spz_put hsp hOld
      refine lv_aload_n hx hb d_Di_open_75 rfl (lv_at hl 3 rfl) ?_
      refine lv_aload hx hb d_Di_open_76 (lv_at hl 0 rfl) ?_
      refine hm_put (ci := 8) (v := .ref v_14) (ty := (.object "WriteOnceDisc$Nodes")) (C := R_Di) (T := F_Di) (N := 9) hx hb hts ig_Di t_Di tk_Di nm_Di hown hK hH hLo F_x9 rfl 8 (by decide) (hts _ mw_501) (fun _ h9 => h9) rfl (by decide +kernel) rfl rfl (Nat.le_of_ble_eq_true rfl) d_Di_open_78 (fun H_68 locs hH z_69 hLo => ?_)
      have hz : s.heap.size ≤ H_68.size := by rw [z_69]; exact hz
      obtain ⟨h_70, e_71⟩ : ∃ z, z = hu h_66 x9 (.inr (8, [.ref v_1, .ref v_3, .ref v_5, .ref v_7, va_rf v_9, .int v_11, .int 1, .ref v_16, .ref v_14])) := ⟨_, rfl⟩
      have hH : hm D vwCl G h_70 H_68 := by rw [e_71]; exact hH
      have F_v_7 : h_70 v_7 = some (.inr (0, [.ref v_18, .int v_20])) := by rw [e_71, hu_n (tne c_8 T_x9 (by decide))]; exact F_v_7
      have hOld := F_x9
      have F_x9 : h_70 x9 = some (.inr (8, [.ref v_1, .ref v_3, .ref v_5, .ref v_7, va_rf v_9, .int v_11, .int 1, .ref v_16, .ref v_14])) := by rw [e_71]; exact hu_s _ _ _
      have hT : TI τ t n h_70 := by rw [e_71]; exact TI_put hT T_x9 (by decide) ⟨v_1, v_3, v_5, v_7, v_9, v_11, 1, v_16, v_14, rfl, c_2, c_4, c_6, c_8, c_10, zb1, c_17, c_15⟩
      have hkf : kf τ [(10, 1), (10, 2), (5, 1), (7, 1), (6, 0), (1, 0)] [] h h_70 := by rw [e_71]; exact kf_put hkf T_x9 (List.mem_cons_of_mem _ (List.mem_cons_of_mem _ (List.mem_cons_of_mem _ (List.mem_cons_of_mem _ (List.mem_cons_of_mem _ List.mem_cons_self)))))
      have hsp : spz h_70 x9 = spz h x9 := by rw [e_71]; exact spz_put hsp hOld
      refine lv_iload_n hx hb d_Di_open_81 rfl (lv_at hl 1 rfl) ?_
      exact W.iret (v := r_43) hx hb hr (fun t9 ht hW => ⟨r_43, h_70, rfl, ⟨hT, hkf, hsp⟩, by rw [ht]; exact hH, by rw [ht]; exact hz⟩) hLo d_Di_open_82
  · skip
    have ic_72 : r_21.toInt = (-1) := congrArg Int32.toInt hc_27
    refine lv_ldc (v := -1000000) hx hb hown (hts _ mw_506) d_Di_open_14 ?_
    exact W.iret (v := (-1000000)) hx hb hr (fun t9 ht hW => ⟨(-1000000), h, rfl, ⟨hT, hkf, hsp⟩, by rw [ht]; exact hH, by rw [ht]; exact hz⟩) hLo d_Di_open_16
