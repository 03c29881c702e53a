set_option maxRecDepth 100000 in
theorem mw_547 : Cond.methodLink R_Di 139 y_Ns_becomeRootAlone ∈ lw_g := lw_gin (List.mem_append_right _ (List.mem_of_getElem? (i := 599) rfl)) (by decide +kernel)
set_option maxRecDepth 100000 in
theorem mw_548 : Cond.fieldLink R_Di 142 "WriteOnceDisc$Medium" "front" "I" ∈ lw_g := lw_gin (List.mem_append_right _ (List.mem_of_getElem? (i := 230) rfl)) (by decide +kernel)
set_option maxRecDepth 100000 in
theorem mw_549 : Cond.code y_Po_comeBack b_Po_comeBack 1 none ∈ lw_g := lw_gin (List.mem_append_right _ (List.mem_of_getElem? (i := 742) rfl)) (by decide +kernel)
set_option maxRecDepth 100000 in
theorem mw_550 : Cond.methodLink R_Di 163 y_Po_comeBack ∈ lw_g := lw_gin (List.mem_append_right _ (List.mem_of_getElem? (i := 739) rfl)) (by decide +kernel)
set_option maxRecDepth 100000 in
theorem mw_551 : Cond.instanceMethod y_Po_comeBack ∈ lw_g := lw_gin (List.mem_append_right _ (List.mem_of_getElem? (i := 740) rfl)) (by decide +kernel)
set_option maxRecDepth 100000 in
theorem mw_552 : Cond.selects R_Po y_Po_comeBack y_Po_comeBack ∈ lw_g := lw_gin (List.mem_append_right _ (List.mem_of_getElem? (i := 741) rfl)) (by decide +kernel)
set_option maxRecDepth 100000 in
theorem mw_553 : Cond.methodLink R_Di 145 y_Me_isMark ∈ lw_g := lw_gin (List.mem_append_right _ (List.mem_of_getElem? (i := 605) rfl)) (by decide +kernel)
set_option maxRecDepth 100000 in
theorem mw_554 : Cond.code y_Ns_adopt b_Ns_adopt 4 none ∈ lw_g := lw_gin (List.mem_append_right _ (List.mem_of_getElem? (i := 727) rfl)) (by decide +kernel)
set_option maxRecDepth 100000 in
theorem mw_555 : Cond.methodLink R_Di 156 y_Ns_adopt ∈ lw_g := lw_gin (List.mem_append_right _ (List.mem_of_getElem? (i := 724) rfl)) (by decide +kernel)
set_option maxRecDepth 100000 in
theorem mw_556 : Cond.instanceMethod y_Ns_adopt ∈ lw_g := lw_gin (List.mem_append_right _ (List.mem_of_getElem? (i := 725) rfl)) (by decide +kernel)
set_option maxRecDepth 100000 in
theorem mw_557 : Cond.selects R_Ns y_Ns_adopt y_Ns_adopt ∈ lw_g := lw_gin (List.mem_append_right _ (List.mem_of_getElem? (i := 726) rfl)) (by decide +kernel)
set_option maxRecDepth 100000 in
theorem mw_558 : Cond.methodLink R_Di 160 y_Me_markedNumber ∈ lw_g := lw_gin (List.mem_append_right _ (List.mem_of_getElem? (i := 738) rfl)) (by decide +kernel)
theorem d_Di_discover_0 : decode b_Di_discover 0 = .ok (.iconst 0, 1) := by decide +kernel
theorem d_Di_discover_1 : decode b_Di_discover 1 = .ok (.istore_n 1, 1) := by decide +kernel
theorem d_Di_discover_2 : decode b_Di_discover 2 = .ok (.aload_n 0, 1) := by decide +kernel
theorem d_Di_discover_3 : decode b_Di_discover 3 = .ok (.getfield 26, 3) := by decide +kernel
theorem d_Di_discover_6 : decode b_Di_discover 6 = .ok (.invokevirtual 139, 3) := by decide +kernel
theorem d_Di_discover_9 : decode b_Di_discover 9 = .ok (.aload_n 0, 1) := by decide +kernel
theorem d_Di_discover_10 : decode b_Di_discover 10 = .ok (.iconst 0, 1) := by decide +kernel
theorem d_Di_discover_11 : decode b_Di_discover 11 = .ok (.putfield 34, 3) := by decide +kernel
theorem d_Di_discover_14 : decode b_Di_discover 14 = .ok (.iconst 0, 1) := by decide +kernel
theorem d_Di_discover_15 : decode b_Di_discover 15 = .ok (.istore_n 2, 1) := by decide +kernel
theorem d_Di_discover_16 : decode b_Di_discover 16 = .ok (.iload_n 2, 1) := by decide +kernel
theorem d_Di_discover_17 : decode b_Di_discover 17 = .ok (.aload_n 0, 1) := by decide +kernel
theorem d_Di_discover_18 : decode b_Di_discover 18 = .ok (.getfield 53, 3) := by decide +kernel
theorem d_Di_discover_21 : decode b_Di_discover 21 = .ok (.getfield 142, 3) := by decide +kernel
theorem d_Di_discover_24 : decode b_Di_discover 24 = .ok (.if_icmp .ge 72, 3) := by decide +kernel
theorem d_Di_discover_96 : decode b_Di_discover 96 = .ok (.aload_n 0, 1) := by decide +kernel
theorem d_Di_discover_97 : decode b_Di_discover 97 = .ok (.getfield 10, 3) := by decide +kernel
theorem d_Di_discover_100 : decode b_Di_discover 100 = .ok (.getfield 60, 3) := by decide +kernel
theorem d_Di_discover_103 : decode b_Di_discover 103 = .ok (.invokevirtual 163, 3) := by decide +kernel
theorem d_Di_discover_106 : decode b_Di_discover 106 = .ok (.iload_n 1, 1) := by decide +kernel
theorem d_Di_discover_107 : decode b_Di_discover 107 = .ok (.ireturn, 1) := by decide +kernel
theorem d_Di_discover_27 : decode b_Di_discover 27 = .ok (.aload_n 0, 1) := by decide +kernel
theorem d_Di_discover_28 : decode b_Di_discover 28 = .ok (.getfield 53, 3) := by decide +kernel
theorem d_Di_discover_31 : decode b_Di_discover 31 = .ok (.iload_n 2, 1) := by decide +kernel
theorem d_Di_discover_32 : decode b_Di_discover 32 = .ok (.invokevirtual 145, 3) := by decide +kernel
theorem d_Di_discover_35 : decode b_Di_discover 35 = .ok (.ifCond .eq 55, 3) := by decide +kernel
theorem d_Di_discover_90 : decode b_Di_discover 90 = .ok (.iinc 2 1, 3) := by decide +kernel
theorem d_Di_discover_93 : decode b_Di_discover 93 = .ok (.goto (-77), 3) := by decide +kernel
theorem d_Di_discover_38 : decode b_Di_discover 38 = .ok (.aload_n 0, 1) := by decide +kernel
theorem d_Di_discover_39 : decode b_Di_discover 39 = .ok (.getfield 19, 3) := by decide +kernel
theorem d_Di_discover_42 : decode b_Di_discover 42 = .ok (.aload_n 0, 1) := by decide +kernel
theorem d_Di_discover_43 : decode b_Di_discover 43 = .ok (.getfield 53, 3) := by decide +kernel
theorem d_Di_discover_46 : decode b_Di_discover 46 = .ok (.aload_n 0, 1) := by decide +kernel
theorem d_Di_discover_47 : decode b_Di_discover 47 = .ok (.getfield 53, 3) := by decide +kernel
theorem d_Di_discover_50 : decode b_Di_discover 50 = .ok (.iload_n 2, 1) := by decide +kernel
theorem d_Di_discover_51 : decode b_Di_discover 51 = .ok (.invokevirtual 148, 3) := by decide +kernel
theorem d_Di_discover_54 : decode b_Di_discover 54 = .ok (.aload_n 0, 1) := by decide +kernel
theorem d_Di_discover_55 : decode b_Di_discover 55 = .ok (.getfield 45, 3) := by decide +kernel
theorem d_Di_discover_58 : decode b_Di_discover 58 = .ok (.invokevirtual 152, 3) := by decide +kernel
theorem d_Di_discover_61 : decode b_Di_discover 61 = .ok (.ifCond .le 29, 3) := by decide +kernel
theorem d_Di_discover_64 : decode b_Di_discover 64 = .ok (.iinc 1 1, 3) := by decide +kernel
theorem d_Di_discover_67 : decode b_Di_discover 67 = .ok (.aload_n 0, 1) := by decide +kernel
theorem d_Di_discover_68 : decode b_Di_discover 68 = .ok (.getfield 26, 3) := by decide +kernel
theorem d_Di_discover_71 : decode b_Di_discover 71 = .ok (.aload_n 0, 1) := by decide +kernel
theorem d_Di_discover_72 : decode b_Di_discover 72 = .ok (.getfield 45, 3) := by decide +kernel
theorem d_Di_discover_75 : decode b_Di_discover 75 = .ok (.invokevirtual 156, 3) := by decide +kernel
theorem d_Di_discover_78 : decode b_Di_discover 78 = .ok (.aload_n 0, 1) := by decide +kernel
theorem d_Di_discover_79 : decode b_Di_discover 79 = .ok (.aload_n 0, 1) := by decide +kernel
theorem d_Di_discover_80 : decode b_Di_discover 80 = .ok (.getfield 53, 3) := by decide +kernel
theorem d_Di_discover_83 : decode b_Di_discover 83 = .ok (.iload_n 2, 1) := by decide +kernel
theorem d_Di_discover_84 : decode b_Di_discover 84 = .ok (.invokevirtual 160, 3) := by decide +kernel
theorem d_Di_discover_87 : decode b_Di_discover 87 = .ok (.putfield 34, 3) := by decide +kernel
set_option maxHeartbeats 4000000 in
set_option maxRecDepth 100000 in
theorem x_discover (l : Launch) (D : va_G) (t : Nat → ClassId) (G : hG) (ak av : Nat → Nat) (h : hM) (τ : tM) (n : Nat) (x9 : Nat) (hn : n ≤ 200) (hT : TI τ t n h) (T_x9 : τ x9 = (1, 0)) (hU : ∀ a b, τ a = (7, 0) → τ b = (7, 0) → a = b) (hTr : ∀ P, τ P = (7, 0) → TrP t h P) : Met l y_Di_discover (.code y_Di_discover b_Di_discover 3 (some .int) :: lw_g) { frames := 10, cells := 0, slots := 0, locals := 229 } (hP (kE D t G ak av) D vwCl G h [.ref x9]) (hQi D vwCl G (fun r h' => TI τ t n h' ∧ kf τ [(10, 0), (7, 0), (10, 1), (10, 2), (5, 1), (7, 1), (6, 0), (1, 0), (3, 0)] [] h h' ∧ (∀ P, τ P = (7, 0) → TrP t h' P) ∧ spz h' x9 = spz h x9)) 0 0 G.P := by
  refine Met.ofW (cc := b_Di_discover) (maxL := 3) (ret := (some .int)) (by decide) rfl ?_
  intro p e s m args below meth c s₁ Bd hml hv
  obtain ⟨ha, hE, hH⟩ := hv
  have hx := Bd.exec
  have hb := Bd.bytes
  have hr := Bd.returns
  have hts : ∀ w ∈ lw_g, w.before args s = true := fun w hw => atoms_spec (ws := (.code y_Di_discover b_Di_discover 3 (some .int) :: lw_g)) Bd.pre w (List.mem_cons_of_mem _ hw)
  have hown : s.vm.findClass R_Di = some m.cls := findClass_of_methodNamed Bd.named
  have hlocks := Bd.notSynchronized
  have hK := hE.1
  have hH0 := hH
  have hLo : hLc G.P [] := hLc_nil
  have hz : s.heap.size ≤ s.heap.size := Nat.le_refl _
  have hl := lv_entry [.ref x9] (n := 3) (Nat.le_of_ble_eq_true rfl)
  rw [show entryFrame m args 3 = F0 m 0 ((lg_sl [.ref x9] ++ List.replicate (3 - (lg_sl [.ref x9]).length) Slot.unset).toArray) [] from (by rw [ha]; exact lg_entry_eq m [.ref x9] 3)]
  generalize (lg_sl [.ref x9] ++ List.replicate (3 - (lg_sl [.ref x9]).length) Slot.unset).toArray = ls at hl ⊢
  have hl : lv_has ls 3 [(0, .ref x9)] := hl
  have hkf : kf τ [(10, 0), (7, 0), (10, 1), (10, 2), (5, 1), (7, 1), (6, 0), (1, 0), (3, 0)] [] h h := kf_rf
  have hsp : spz h x9 = spz h x9 := rfl
  refine lv_iconst (v := 0) hx hb d_Di_discover_0 (by decide) ?_
  refine lv_istore_n (lv' := [(1, .int 0), (0, .ref x9)]) hx hb d_Di_discover_1 rfl hl (by decide) rfl (fun ls hl => ?_)
  refine lv_aload_n hx hb d_Di_discover_2 rfl (lv_at hl 1 rfl) ?_
  obtain ⟨v_1, v_3, v_5, v_7, v_9, v_11, v_12, v_14, v_16, F_x9, c_2, c_4, c_6, c_8, c_10, c_13, c_15, c_17⟩ := TI_disc hT T_x9
  refine hm_get (ci := 8) (v := .ref v_5) (C := R_Di) (T := F_Di) (N := 9) hx hb hts ig_Di hown hK hH F_x9 rfl 2 (by decide) (hts _ mw_443) (fun _ h9 => h9) rfl d_Di_discover_3 ?_
  obtain ⟨v_18, v_20, v_22, v_24, F_v_5, c_19, c_21, c_23⟩ := TI_nds hT c_6
  obtain ⟨g_25, F_v_18, c_26, c_27⟩ := TI_slo hT c_19
  have O_N : Nds t h v_5 v_18 v_20 v_22 v_24 g_25 := ⟨F_v_5, F_v_18⟩
  refine hm_callv (va_runV (As := []) (b := v_5) (rest := []) ⟨hx, hb, hml, hown, hts⟩ (t_rootAlone l D t G ak av h τ n 0 v_5  hn hT c_6) ⟨cw9B 0 hts mw_405 mw_547 mw_132 rfl rfl (by decide +kernel) ⟨Nat.le_of_ble_eq_true rfl, Nat.le_of_ble_eq_true rfl⟩, hts _ mw_407, hts _ mw_408⟩ (hP_V (q := (R_Ns, F_Ns, 4)) kE_ok hE hK hH F_v_5 rfl) rfl rfl hl.1 rfl (lv_room (Nat.le_of_ble_eq_true rfl)) d_Di_discover_6 ⟨Nat.le_of_ble_eq_true rfl, Nat.le_of_ble_eq_true rfl⟩) hLo (fun h_28 H_29 locs hp_31 hH z_30 hLo => ?_)
  have hz : s.heap.size ≤ H_29.size := Nat.le_trans hz z_30
  have hT0 := hT
  obtain ⟨hT, kf_33, xp_32⟩ := hp_31
  have F_x9 : h_28 x9 = some (.inr (8, [.ref v_1, .ref v_3, .ref v_5, .ref v_7, va_rf v_9, .int v_11, .int v_12, .ref v_14, .ref v_16])) := kf_at kf_33 T_x9 (by decide) (tnc (by decide) tn0) (nmc (tne T_x9 c_6 (by decide)) nm0) F_x9
  have F_v_18 : h_28 v_18 = some (.inl ((t 4), 30, .inr (.inr (.inr (.inr g_25))))) := kf_at kf_33 c_19 (by decide) (tnc (by decide) tn0) (nmc (tne c_19 c_6 (by decide)) nm0) F_v_18
  have hsp : spz h_28 x9 = spz h x9 := spz_kf hsp kf_33 T_x9 (tnc (by decide) tn0) (List.forall_mem_cons.mpr ⟨(fun z => by have := z.symm.trans c_6; simp at this), List.forall_mem_nil _⟩)
  have hkf : kf τ [(10, 0), (7, 0), (10, 1), (10, 2), (5, 1), (7, 1), (6, 0), (1, 0), (3, 0)] [] h h_28 := kf_tr hkf kf_33 (List.forall_mem_cons.mpr ⟨List.mem_cons_self, List.forall_mem_nil _⟩) (List.forall_mem_cons.mpr ⟨Or.inr (by rw [c_6]; exact (List.mem_cons_of_mem _ List.mem_cons_self)), List.forall_mem_nil _⟩)
  have hTr : ∀ P, τ P = (7, 0) → TrP t h_28 P := fun P hP => by
    obtain rfl := hU v_5 P c_6 hP
    exact TrP_rt O_N xp_32
  refine lv_aload_n hx hb d_Di_discover_9 rfl (lv_at hl 1 rfl) ?_
  refine lv_iconst (v := 0) hx hb d_Di_discover_10 (by decide) ?_
  refine hm_put (ci := 8) (v := .int 0) (ty := .int) (C := R_Di) (T := F_Di) (N := 9) hx hb hts ig_Di t_Di tk_Di nm_Di hown hK hH hLo F_x9 rfl 5 (by decide) (hts _ mw_490) (fun _ h9 => h9) rfl (by decide +kernel) rfl rfl (Nat.le_of_ble_eq_true rfl) d_Di_discover_11 (fun H_34 locs hH z_35 hLo => ?_)
  have hz : s.heap.size ≤ H_34.size := by rw [z_35]; exact hz
  obtain ⟨h_36, e_37⟩ : ∃ z, z = hu h_28 x9 (.inr (8, [.ref v_1, .ref v_3, .ref v_5, .ref v_7, va_rf v_9, .int 0, .int v_12, .ref v_14, .ref v_16])) := ⟨_, rfl⟩
  have hH : hm D vwCl G h_36 H_34 := by rw [e_37]; exact hH
  have F_v_18 : h_36 v_18 = some (.inl ((t 4), 30, .inr (.inr (.inr (.inr g_25))))) := by rw [e_37, hu_n (tne c_19 T_x9 (by decide))]; exact F_v_18
  have hOld := F_x9
  have F_x9 : h_36 x9 = some (.inr (8, [.ref v_1, .ref v_3, .ref v_5, .ref v_7, va_rf v_9, .int 0, .int v_12, .ref v_14, .ref v_16])) := by rw [e_37]; exact hu_s _ _ _
  have hT : TI τ t n h_36 := by rw [e_37]; exact TI_put hT T_x9 (by decide) ⟨v_1, v_3, v_5, v_7, v_9, 0, v_12, v_14, v_16, rfl, c_2, c_4, c_6, c_8, c_10, c_13, c_15, c_17⟩
  have hkf : kf τ [(10, 0), (7, 0), (10, 1), (10, 2), (5, 1), (7, 1), (6, 0), (1, 0), (3, 0)] [] h h_36 := by rw [e_37]; exact kf_put hkf T_x9 (List.mem_cons_of_mem _ (List.mem_cons_of_mem _ (List.mem_cons_of_mem _ (List.mem_cons_of_mem _ (List.mem_cons_of_mem _ (List.mem_cons_of_mem _ (List.mem_cons_of_mem _ List.mem_cons_self)))))))
  have hTr : ∀ P, τ P = (7, 0) → TrP t h_36 P := by rw [e_37] at hT ⊢; exact TrP_put hT (fun z => by have := z.symm.trans T_x9; simp at this) (fun z => by have := z.symm.trans T_x9; simp at this) (fun z => by have := z.symm.trans T_x9; simp at this) hTr
  have hsp : spz h_36 x9 = spz h x9 := by rw [e_37]; exact spz_put hsp hOld
  refine lv_iconst (v := 0) hx hb d_Di_discover_14 (by decide) ?_
  refine lv_istore_n (lv' := [(2, .int 0), (1, .int 0), (0, .ref x9)]) hx hb d_Di_discover_15 rfl hl (by decide) rfl (fun ls hl => ?_)
  refine hm_loop (fun k16 ls H locs hh16 => ∃ (cp9 : Int32) (i9 : Int32), k16 = mU i9 ∧ lv_has ls 3 [(0, .ref x9), (1, .int cp9), (2, .int i9)] ∧ hm D vwCl G hh16 H ∧ s.heap.size ≤ H.size ∧ hLc G.P locs ∧ (TI τ t n hh16) ∧ (kf τ [(10, 0), (7, 0), (10, 1), (10, 2), (5, 1), (7, 1), (6, 0), (1, 0), (3, 0)] [] h hh16) ∧ (∀ P, τ P = (7, 0) → TrP t hh16 P) ∧ (spz hh16 x9 = spz h x9) ∧ (0 ≤ i9.toInt)) ?_ (hh := h_36) ⟨0, 0, rfl, (lv_sub hl [2, 1, 0] rfl), hH, hz, hLo, hT, hkf, hTr, hsp, (by decide)⟩
  rintro k16 ls H locs hh16 ⟨cp9, i9, hk16, hl, hH, hz, hLo, hT, hkf, hTr, hsp, I_i9⟩ ih16
  refine lv_iload_n hx hb d_Di_discover_16 rfl (lv_at hl 2 rfl) ?_
  refine lv_aload_n hx hb d_Di_discover_17 rfl (lv_at hl 0 rfl) ?_
  obtain ⟨v_38, v_40, v_42, v_44, v_46, v_48, v_49, v_51, v_53, F_x9, c_39, c_41, c_43, c_45, c_47, c_50, c_52, c_54⟩ := TI_disc hT T_x9
  refine hm_get (ci := 8) (v := .ref v_44) (C := R_Di) (T := F_Di) (N := 9) hx hb hts ig_Di hown hK hH F_x9 rfl 3 (by decide) (hts _ mw_425) (fun _ h9 => h9) rfl d_Di_discover_18 ?_
  obtain ⟨v_55, v_57, F_v_44, c_56⟩ := TI_med hT c_45
  refine hm_get (ci := 0) (v := .int v_57) (C := R_Me) (T := F_Me) (N := 2) hx hb hts ig_Me hown hK hH F_v_44 rfl 1 (by decide) (hts _ mw_548) (fun _ h9 => h9) rfl d_Di_discover_21 ?_
  refine lv_icmp_ge (tgt := 96) hx hb d_Di_discover_24 (by decide) (fun hc_58 => ?_) (fun hc_58 => ?_)
  · skip
    have ic_59 : v_57.toInt ≤ i9.toInt := iLe hc_58
    refine lv_aload_n hx hb d_Di_discover_96 rfl (lv_at hl 0 rfl) ?_
    refine hm_get (ci := 8) (v := .ref v_38) (C := R_Di) (T := F_Di) (N := 9) hx hb hts ig_Di hown hK hH F_x9 rfl 0 (by decide) (hts _ mw_430) (fun _ h9 => h9) rfl d_Di_discover_97 ?_
    obtain ⟨v_60, v_62, F_v_38, c_61, c_63⟩ := TI_wri hT c_39
    refine hm_get (ci := 7) (v := .ref v_60) (C := R_Wr) (T := F_Wr) (N := 2) hx hb hts ig_Wr hown hK hH F_v_38 rfl 0 (by decide) (hts _ mw_431) (fun _ h9 => h9) rfl d_Di_discover_100 ?_
    obtain ⟨v_64, v_65, v_67, F_v_60, c_66⟩ := TI_pow hT c_61
    refine hm_callv (va_runV (As := []) (b := v_60) (rest := []) ⟨hx, hb, hml, hown, hts⟩ (t_comeBack l D t G ak av hh16 τ n v_60  hn hT c_61) ⟨cw9B 0 hts mw_549 mw_550 mw_247 rfl rfl (by decide +kernel) ⟨Nat.le_of_ble_eq_true rfl, Nat.le_of_ble_eq_true rfl⟩, hts _ mw_551, hts _ mw_552⟩ (hP_V (q := (R_Po, F_Po, 3)) kE_ok hE hK hH F_v_60 rfl) rfl rfl hl.1 rfl (lv_room (Nat.le_of_ble_eq_true rfl)) d_Di_discover_103 ⟨Nat.le_of_ble_eq_true rfl, Nat.le_of_ble_eq_true rfl⟩) hLo (fun h_68 H_69 locs hp_71 hH z_70 hLo => ?_)
    have hz : s.heap.size ≤ H_69.size := Nat.le_trans hz z_70
    have hT0 := hT
    obtain ⟨hT, kf_73⟩ := hp_71
    have F_x9 : h_68 x9 = some (.inr (8, [.ref v_38, .ref v_40, .ref v_42, .ref v_44, va_rf v_46, .int v_48, .int v_49, .ref v_51, .ref v_53])) := kf_at kf_73 T_x9 (by decide) (tnc (by decide) tn0) nm0 F_x9
    have F_v_44 : h_68 v_44 = some (.inr (0, [.ref v_55, .int v_57])) := kf_at kf_73 c_45 (by decide) (tnc (by decide) tn0) nm0 F_v_44
    have F_v_38 : h_68 v_38 = some (.inr (7, [.ref v_60, .ref v_62])) := kf_at kf_73 c_39 (by decide) (tnc (by decide) tn0) nm0 F_v_38
    have hTr : ∀ P, τ P = (7, 0) → TrP t h_68 P := TrP_kf hT kf_73 (tnc (by decide) tn0) (tnc (by decide) tn0) (List.forall_mem_nil _) (knp_kf knp_rf kf_73 (tnc (by decide) tn0) (List.forall_mem_nil _)) hTr
    have hsp : spz h_68 x9 = spz h x9 := spz_kf hsp kf_73 T_x9 (tnc (by decide) tn0) (List.forall_mem_nil _)
    have hkf : kf τ [(10, 0), (7, 0), (10, 1), (10, 2), (5, 1), (7, 1), (6, 0), (1, 0), (3, 0)] [] h h_68 := kf_tr hkf kf_73 (List.forall_mem_cons.mpr ⟨(List.mem_cons_of_mem _ (List.mem_cons_of_mem _ (List.mem_cons_of_mem _ (List.mem_cons_of_mem _ (List.mem_cons_of_mem _ (List.mem_cons_of_mem _ (List.mem_cons_of_mem _ (List.mem_cons_of_mem _ List.mem_cons_self)))))))), List.forall_mem_nil _⟩) (List.forall_mem_nil _)
    refine lv_iload_n hx hb d_Di_discover_106 rfl (lv_at hl 1 rfl) ?_
    exact W.iret (v := cp9) hx hb hr (fun t9 ht hW => ⟨cp9, h_68, rfl, ⟨hT, hkf, hTr, hsp⟩, by rw [ht]; exact hH, by rw [ht]; exact hz⟩) hLo d_Di_discover_107
  · skip
    have ic_74 : i9.toInt < v_57.toInt := iNe hc_58
    have iu_75 : v_57.toInt < 2147483648 := iUp _
    refine lv_aload_n hx hb d_Di_discover_27 rfl (lv_at hl 0 rfl) ?_
    refine hm_get (ci := 8) (v := .ref v_44) (C := R_Di) (T := F_Di) (N := 9) hx hb hts ig_Di hown hK hH F_x9 rfl 3 (by decide) (hts _ mw_425) (fun _ h9 => h9) rfl d_Di_discover_28 ?_
    refine lv_iload_n hx hb d_Di_discover_31 rfl (lv_at hl 2 rfl) ?_
    refine hm_callPi (va_runV (As := [.int i9]) (b := v_44) (rest := []) ⟨hx, hb, hml, hown, hts⟩ (t_isMark l D t G ak av hh16 τ n v_44 i9  hn hT c_45) ⟨cw9B 1 hts mw_65 mw_553 mw_32 rfl rfl (by decide +kernel) ⟨Nat.le_of_ble_eq_true rfl, Nat.le_of_ble_eq_true rfl⟩, hts _ mw_67, hts _ mw_68⟩ (hP_V (q := (R_Me, F_Me, 2)) kE_ok hE hK hH F_v_44 rfl) rfl rfl hl.1 rfl (lv_room (Nat.le_of_ble_eq_true rfl)) d_Di_discover_32 ⟨Nat.le_of_ble_eq_true rfl, Nat.le_of_ble_eq_true rfl⟩) (fun r_76 h_77 H_78 hp_80  hH z_79 => ?_)
    have hz : s.heap.size ≤ H_78.size := Nat.le_trans hz z_79
    obtain ⟨c_81, rfl⟩ := hp_80
    refine lv_if_eq (tgt := 90) hx hb d_Di_discover_35 (by decide) (fun hc_83 => ?_) (fun hc_83 => ?_)
    · skip
      have ic_84 : r_76.toInt = 0 := congrArg Int32.toInt hc_83
      obtain ⟨j_85, e_86⟩ : ∃ z : Int32, z = i9 + 1 := ⟨_, rfl⟩
      refine lv_iinc (v := j_85) (lv' := [(2, .int j_85), (0, .ref x9), (1, .int cp9)]) hx hb d_Di_discover_90 hl (k := 2) rfl e_86.symm (by decide) rfl (fun ls hl => ?_)
      refine lv_goto (tgt := 16) hx hb d_Di_discover_93 (by decide) ?_
      have is_87 : j_85.toInt = i9.toInt + 1 := by rw [e_86]; exact iAddK 1 rfl (by omega) (by omega)
      exact ih16 (mU j_85) ls _ locs _ (by rw [hk16]; exact mU_lt (by omega)) ⟨cp9, j_85, rfl, (lv_sub hl [1, 2, 0] rfl), hH, hz, hLo, hT, hkf, hTr, hsp, (by omega)⟩
    · skip
      refine lv_aload_n hx hb d_Di_discover_38 rfl (lv_at hl 0 rfl) ?_
      refine hm_get (ci := 8) (v := .ref v_40) (C := R_Di) (T := F_Di) (N := 9) hx hb hts ig_Di hown hK hH F_x9 rfl 1 (by decide) (hts _ mw_499) (fun _ h9 => h9) rfl d_Di_discover_39 ?_
      refine lv_aload_n hx hb d_Di_discover_42 rfl (lv_at hl 0 rfl) ?_
      refine hm_get (ci := 8) (v := .ref v_44) (C := R_Di) (T := F_Di) (N := 9) hx hb hts ig_Di hown hK hH F_x9 rfl 3 (by decide) (hts _ mw_425) (fun _ h9 => h9) rfl d_Di_discover_43 ?_
      refine lv_aload_n hx hb d_Di_discover_46 rfl (lv_at hl 0 rfl) ?_
      refine hm_get (ci := 8) (v := .ref v_44) (C := R_Di) (T := F_Di) (N := 9) hx hb hts ig_Di hown hK hH F_x9 rfl 3 (by decide) (hts _ mw_425) (fun _ h9 => h9) rfl d_Di_discover_47 ?_
      refine lv_iload_n hx hb d_Di_discover_50 rfl (lv_at hl 2 rfl) ?_
      refine hm_callPi (va_runV (As := [.int i9]) (b := v_44) (rest := [.ref v_44, .ref v_40]) ⟨hx, hb, hml, hown, hts⟩ (t_mBase l D t G ak av hh16 τ n v_44 i9  hn hT c_45) ⟨cw9B 1 hts mw_60 mw_500 mw_32 rfl rfl (by decide +kernel) ⟨Nat.le_of_ble_eq_true rfl, Nat.le_of_ble_eq_true rfl⟩, hts _ mw_62, hts _ mw_63⟩ (hP_V (q := (R_Me, F_Me, 2)) kE_ok hE hK hH F_v_44 rfl) rfl rfl hl.1 rfl (lv_room (Nat.le_of_ble_eq_true rfl)) d_Di_discover_51 ⟨Nat.le_of_ble_eq_true rfl, Nat.le_of_ble_eq_true rfl⟩) (fun r_88 h_89 H_90 hp_92  hH z_91 => ?_)
      have hz : s.heap.size ≤ H_90.size := Nat.le_trans hz z_91
      obtain rfl := hp_92
      refine lv_aload_n hx hb d_Di_discover_54 rfl (lv_at hl 0 rfl) ?_
      refine hm_get (ci := 8) (v := .ref v_53) (C := R_Di) (T := F_Di) (N := 9) hx hb hts ig_Di hown hK hH F_x9 rfl 8 (by decide) (hts _ mw_501) (fun _ h9 => h9) rfl d_Di_discover_55 ?_
      obtain ⟨v_94, v_96, v_98, v_100, v_102, F_v_40, c_95, c_97, c_99, c_101⟩ := TI_rdr hT c_41
      refine hm_calli (va_runV (As := [.ref v_44, .int r_88, .ref v_53]) (b := v_40) (rest := []) ⟨hx, hb, hml, hown, hts⟩ (t_count l D t G ak av hh16 τ n v_40 v_44 r_88 v_53  hn hT c_41 c_45 c_54) ⟨cw9B 3 hts mw_502 mw_503 mw_332 rfl rfl (by decide +kernel) ⟨Nat.le_of_ble_eq_true rfl, Nat.le_of_ble_eq_true rfl⟩, hts _ mw_504, hts _ mw_505⟩ (hP_V (q := (R_Re, F_Re, 5)) kE_ok hE hK hH F_v_40 rfl) rfl rfl hl.1 rfl (lv_room (Nat.le_of_ble_eq_true rfl)) d_Di_discover_58 ⟨Nat.le_of_ble_eq_true rfl, Nat.le_of_ble_eq_true rfl⟩) hLo (fun r_103 h_104 H_105 locs hp_107 hH z_106 hLo => ?_)
      have hz : s.heap.size ≤ H_105.size := Nat.le_trans hz z_106
      have hT0 := hT
      obtain ⟨hT, kf_109, xp_108⟩ := hp_107
      have F_x9 : h_104 x9 = some (.inr (8, [.ref v_38, .ref v_40, .ref v_42, .ref v_44, va_rf v_46, .int v_48, .int v_49, .ref v_51, .ref v_53])) := kf_at kf_109 T_x9 (by decide) (tnc (by decide) (tnc (by decide) (tnc (by decide) (tnc (by decide) tn0)))) (nmc (tne T_x9 c_41 (by decide)) nm0) F_x9
      have F_v_44 : h_104 v_44 = some (.inr (0, [.ref v_55, .int v_57])) := kf_at kf_109 c_45 (by decide) (tnc (by decide) (tnc (by decide) (tnc (by decide) (tnc (by decide) tn0)))) (nmc (tne c_45 c_41 (by decide)) nm0) F_v_44
      have hTr : ∀ P, τ P = (7, 0) → TrP t h_104 P := TrP_kf hT kf_109 (tnc (by decide) (tnc (by decide) (tnc (by decide) (tncF (by decide) tn0)))) (tnc (by decide) (tnc (by decide) (tnc (by decide) (tnc (by decide) tn0)))) (List.forall_mem_cons.mpr ⟨⟨(fun z => by have := z.symm.trans c_41; simp at this), (fun z => by have := z.symm.trans c_41; simp at this)⟩, List.forall_mem_nil _⟩) (knp_kf knp_rf kf_109 (tncF (by decide) (tncF (by decide) (tnc (by decide) (tnc (by decide) tn0)))) (List.forall_mem_cons.mpr ⟨(fun z => by have := z.symm.trans c_41; simp at this), List.forall_mem_nil _⟩)) hTr
      have hsp : spz h_104 x9 = spz h x9 := spz_kf hsp kf_109 T_x9 (tnc (by decide) (tnc (by decide) (tnc (by decide) (tnc (by decide) tn0)))) (List.forall_mem_cons.mpr ⟨(fun z => by have := z.symm.trans c_41; simp at this), List.forall_mem_nil _⟩)
      have hkf : kf τ [(10, 0), (7, 0), (10, 1), (10, 2), (5, 1), (7, 1), (6, 0), (1, 0), (3, 0)] [] h h_104 := kf_tr hkf kf_109 (List.forall_mem_cons.mpr ⟨(List.mem_cons_of_mem _ (List.mem_cons_of_mem _ List.mem_cons_self)), List.forall_mem_cons.mpr ⟨(List.mem_cons_of_mem _ (List.mem_cons_of_mem _ (List.mem_cons_of_mem _ List.mem_cons_self))), List.forall_mem_cons.mpr ⟨(List.mem_cons_of_mem _ (List.mem_cons_of_mem _ (List.mem_cons_of_mem _ (List.mem_cons_of_mem _ List.mem_cons_self)))), List.forall_mem_cons.mpr ⟨(List.mem_cons_of_mem _ (List.mem_cons_of_mem _ (List.mem_cons_of_mem _ (List.mem_cons_of_mem _ (List.mem_cons_of_mem _ List.mem_cons_self))))), List.forall_mem_nil _⟩⟩⟩⟩) (List.forall_mem_cons.mpr ⟨Or.inr (by rw [c_41]; exact (List.mem_cons_of_mem _ (List.mem_cons_of_mem _ (List.mem_cons_of_mem _ (List.mem_cons_of_mem _ (List.mem_cons_of_mem _ (List.mem_cons_of_mem _ List.mem_cons_self))))))), List.forall_mem_nil _⟩)
      refine lv_if_le (tgt := 90) hx hb d_Di_discover_61 (by decide) (fun hc_110 => ?_) (fun hc_110 => ?_)
      · skip
        have ic_111 : r_103.toInt ≤ 0 := iLe hc_110
        obtain ⟨j_112, e_113⟩ : ∃ z : Int32, z = i9 + 1 := ⟨_, rfl⟩
        refine lv_iinc (v := j_112) (lv' := [(2, .int j_112), (0, .ref x9), (1, .int cp9)]) hx hb d_Di_discover_90 hl (k := 2) rfl e_113.symm (by decide) rfl (fun ls hl => ?_)
        refine lv_goto (tgt := 16) hx hb d_Di_discover_93 (by decide) ?_
        have is_114 : j_112.toInt = i9.toInt + 1 := by rw [e_113]; exact iAddK 1 rfl (by omega) (by omega)
        exact ih16 (mU j_112) ls _ locs _ (by rw [hk16]; exact mU_lt (by omega)) ⟨cp9, j_112, rfl, (lv_sub hl [1, 2, 0] rfl), hH, hz, hLo, hT, hkf, hTr, hsp, (by omega)⟩
      · skip
        have ic_115 : 0 < r_103.toInt := iNe hc_110
        have iu_116 : r_103.toInt < 2147483648 := iUp _
        obtain ⟨j_117, e_118⟩ : ∃ z : Int32, z = cp9 + 1 := ⟨_, rfl⟩
        refine lv_iinc (v := j_117) (lv' := [(1, .int j_117), (0, .ref x9), (2, .int i9)]) hx hb d_Di_discover_64 hl (k := 1) rfl e_118.symm (by decide) rfl (fun ls hl => ?_)
        refine lv_aload_n hx hb d_Di_discover_67 rfl (lv_at hl 1 rfl) ?_
        refine hm_get (ci := 8) (v := .ref v_42) (C := R_Di) (T := F_Di) (N := 9) hx hb hts ig_Di hown hK hH F_x9 rfl 2 (by decide) (hts _ mw_443) (fun _ h9 => h9) rfl d_Di_discover_68 ?_
        refine lv_aload_n hx hb d_Di_discover_71 rfl (lv_at hl 1 rfl) ?_
        refine hm_get (ci := 8) (v := .ref v_53) (C := R_Di) (T := F_Di) (N := 9) hx hb hts ig_Di hown hK hH F_x9 rfl 8 (by decide) (hts _ mw_501) (fun _ h9 => h9) rfl d_Di_discover_72 ?_
        obtain ⟨v_119, v_121, v_123, v_125, F_v_42, c_120, c_122, c_124⟩ := TI_nds hT c_43
        refine hm_callv (va_runV (As := [.ref v_53]) (b := v_42) (rest := []) ⟨hx, hb, hml, hown, hts⟩ (t_nsadopt l D t G ak av h_104 τ n v_42 v_53  hn hT c_43 c_54 xp_108) ⟨cw9B 1 hts mw_554 mw_555 mw_132 rfl rfl (by decide +kernel) ⟨Nat.le_of_ble_eq_true rfl, Nat.le_of_ble_eq_true rfl⟩, hts _ mw_556, hts _ mw_557⟩ (hP_V (q := (R_Ns, F_Ns, 4)) kE_ok hE hK hH F_v_42 rfl) rfl rfl hl.1 rfl (lv_room (Nat.le_of_ble_eq_true rfl)) d_Di_discover_75 ⟨Nat.le_of_ble_eq_true rfl, Nat.le_of_ble_eq_true rfl⟩) hLo (fun h_126 H_127 locs hp_129 hH z_128 hLo => ?_)
        have hz : s.heap.size ≤ H_127.size := Nat.le_trans hz z_128
        have hT0 := hT
        obtain ⟨hT, kf_131, xp_130⟩ := hp_129
        have F_x9 : h_126 x9 = some (.inr (8, [.ref v_38, .ref v_40, .ref v_42, .ref v_44, va_rf v_46, .int v_48, .int v_49, .ref v_51, .ref v_53])) := kf_at kf_131 T_x9 (by decide) (tnc (by decide) tn0) (nmc (tne T_x9 c_43 (by decide)) nm0) F_x9
        have F_v_44 : h_126 v_44 = some (.inr (0, [.ref v_55, .int v_57])) := kf_at kf_131 c_45 (by decide) (tnc (by decide) tn0) (nmc (tne c_45 c_43 (by decide)) nm0) F_v_44
        have hsp : spz h_126 x9 = spz h x9 := spz_kf hsp kf_131 T_x9 (tnc (by decide) tn0) (List.forall_mem_cons.mpr ⟨(fun z => by have := z.symm.trans c_43; simp at this), List.forall_mem_nil _⟩)
        have hkf : kf τ [(10, 0), (7, 0), (10, 1), (10, 2), (5, 1), (7, 1), (6, 0), (1, 0), (3, 0)] [] h h_126 := kf_tr hkf kf_131 (List.forall_mem_cons.mpr ⟨List.mem_cons_self, List.forall_mem_nil _⟩) (List.forall_mem_cons.mpr ⟨Or.inr (by rw [c_43]; exact (List.mem_cons_of_mem _ List.mem_cons_self)), List.forall_mem_nil _⟩)
        have hTr : ∀ P, τ P = (7, 0) → TrP t h_126 P := fun P hP => by
          obtain rfl := hU v_42 P c_43 hP
          exact xp_130
        refine lv_aload_n hx hb d_Di_discover_78 rfl (lv_at hl 1 rfl) ?_
        refine lv_aload_n hx hb d_Di_discover_79 rfl (lv_at hl 1 rfl) ?_
        refine hm_get (ci := 8) (v := .ref v_44) (C := R_Di) (T := F_Di) (N := 9) hx hb hts ig_Di hown hK hH F_x9 rfl 3 (by decide) (hts _ mw_425) (fun _ h9 => h9) rfl d_Di_discover_80 ?_
        refine lv_iload_n hx hb d_Di_discover_83 rfl (lv_at hl 2 rfl) ?_
        refine hm_callPi (va_runV (As := [.int i9]) (b := v_44) (rest := [.ref x9]) ⟨hx, hb, hml, hown, hts⟩ (t_mNum l D t G ak av h_126 τ n v_44 i9  hn hT c_45) ⟨cw9B 1 hts mw_56 mw_558 mw_32 rfl rfl (by decide +kernel) ⟨Nat.le_of_ble_eq_true rfl, Nat.le_of_ble_eq_true rfl⟩, hts _ mw_58, hts _ mw_59⟩ (hP_V (q := (R_Me, F_Me, 2)) kE_ok hE hK hH F_v_44 rfl) rfl rfl hl.1 rfl (lv_room (Nat.le_of_ble_eq_true rfl)) d_Di_discover_84 ⟨Nat.le_of_ble_eq_true rfl, Nat.le_of_ble_eq_true rfl⟩) (fun r_132 h_133 H_134 hp_136  hH z_135 => ?_)
        have hz : s.heap.size ≤ H_134.size := Nat.le_trans hz z_135
        obtain rfl := hp_136
        refine hm_put (ci := 8) (v := .int r_132) (ty := .int) (C := R_Di) (T := F_Di) (N := 9) hx hb hts ig_Di t_Di tk_Di nm_Di hown hK hH hLo F_x9 rfl 5 (by decide) (hts _ mw_490) (fun _ h9 => h9) rfl (by decide +kernel) rfl rfl (Nat.le_of_ble_eq_true rfl) d_Di_discover_87 (fun H_138 locs hH z_139 hLo => ?_)
        have hz : s.heap.size ≤ H_138.size := by rw [z_139]; exact hz
        obtain ⟨h_140, e_141⟩ : ∃ z, z = hu h_126 x9 (.inr (8, [.ref v_38, .ref v_40, .ref v_42, .ref v_44, va_rf v_46, .int r_132, .int v_49, .ref v_51, .ref v_53])) := ⟨_, rfl⟩
        have hH : hm D vwCl G h_140 H_138 := by rw [e_141]; exact hH
        have F_v_44 : h_140 v_44 = some (.inr (0, [.ref v_55, .int v_57])) := by rw [e_141, hu_n (tne c_45 T_x9 (by decide))]; exact F_v_44
        have hOld := F_x9
        have F_x9 : h_140 x9 = some (.inr (8, [.ref v_38, .ref v_40, .ref v_42, .ref v_44, va_rf v_46, .int r_132, .int v_49, .ref v_51, .ref v_53])) := by rw [e_141]; exact hu_s _ _ _
        have hT : TI τ t n h_140 := by rw [e_141]; exact TI_put hT T_x9 (by decide) ⟨v_38, v_40, v_42, v_44, v_46, r_132, v_49, v_51, v_53, rfl, c_39, c_41, c_43, c_45, c_47, c_50, c_52, c_54⟩
        have hkf : kf τ [(10, 0), (7, 0), (10, 1), (10, 2), (5, 1), (7, 1), (6, 0), (1, 0), (3, 0)] [] h h_140 := by rw [e_141]; exact kf_put hkf T_x9 (List.mem_cons_of_mem _ (List.mem_cons_of_mem _ (List.mem_cons_of_mem _ (List.mem_cons_of_mem _ (List.mem_cons_of_mem _ (List.mem_cons_of_mem _ (List.mem_cons_of_mem _ List.mem_cons_self)))))))
        have hTr : ∀ P, τ P = (7, 0) → TrP t h_140 P := by rw [e_141] at hT ⊢; exact TrP_put hT (fun z => by have := z.symm.trans T_x9; simp at this) (fun z => by have := z.symm.trans T_x9; simp at this) (fun z => by have := z.symm.trans T_x9; simp at this) hTr
        have hsp : spz h_140 x9 = spz h x9 := by rw [e_141]; exact spz_put hsp hOld
        obtain ⟨j_142, e_143⟩ : ∃ z : Int32, z = i9 + 1 := ⟨_, rfl⟩
        refine lv_iinc (v := j_142) (lv' := [(2, .int j_142), (1, .int j_117), (0, .ref x9)]) hx hb d_Di_discover_90 hl (k := 2) rfl e_143.symm (by decide) rfl (fun ls hl => ?_)
        refine lv_goto (tgt := 16) hx hb d_Di_discover_93 (by decide) ?_
        have is_144 : j_142.toInt = i9.toInt + 1 := by rw [e_143]; exact iAddK 1 rfl (by omega) (by omega)
        exact ih16 (mU j_142) ls _ locs _ (by rw [hk16]; exact mU_lt (by omega)) ⟨j_117, j_142, rfl, (lv_sub hl [2, 1, 0] rfl), hH, hz, hLo, hT, hkf, hTr, hsp, (by omega)⟩
