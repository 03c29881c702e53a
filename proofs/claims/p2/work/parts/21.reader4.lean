set_option maxRecDepth 100000 in
theorem mw_375 : Cond.methodLink R_Re 124 y_Ns_append ∈ lw_g := lw_gin (List.mem_append_right _ (List.mem_of_getElem? (i := 694) rfl)) (by decide +kernel)
set_option maxRecDepth 100000 in
theorem mw_376 : Cond.methodLink R_Re 128 y_No_become ∈ lw_g := lw_gin (List.mem_append_right _ (List.mem_of_getElem? (i := 695) rfl)) (by decide +kernel)
set_option maxRecDepth 100000 in
theorem mw_377 : Cond.code y_Re_takesIdentifier b_Re_takesIdentifier 9 (some .boolean) ∈ lw_g := lw_gin (List.mem_append_right _ (List.mem_of_getElem? (i := 699) rfl)) (by decide +kernel)
set_option maxRecDepth 100000 in
theorem mw_378 : Cond.methodLink R_Re 132 y_Re_takesIdentifier ∈ lw_g := lw_gin (List.mem_append_right _ (List.mem_of_getElem? (i := 696) rfl)) (by decide +kernel)
set_option maxRecDepth 100000 in
theorem mw_379 : Cond.instanceMethod y_Re_takesIdentifier ∈ lw_g := lw_gin (List.mem_append_right _ (List.mem_of_getElem? (i := 698) rfl)) (by decide +kernel)
set_option maxRecDepth 100000 in
theorem mw_380 : Cond.selects R_Re y_Re_takesIdentifier y_Re_takesIdentifier ∈ lw_g := lw_gin (List.mem_append_left _ (List.mem_of_getElem? (i := 21) rfl)) (by decide +kernel)
set_option maxRecDepth 100000 in
theorem mw_381 : Cond.fieldLink R_Re 114 "WriteOnceDisc$Node" "parent" "LWriteOnceDisc$Node;" ∈ lw_g := lw_gin (List.mem_append_right _ (List.mem_of_getElem? (i := 95) rfl)) (by decide +kernel)
set_option maxRecDepth 100000 in
theorem mw_382 : Cond.methodLink R_Re 138 y_No_depth ∈ lw_g := lw_gin (List.mem_append_right _ (List.mem_of_getElem? (i := 705) rfl)) (by decide +kernel)
set_option maxRecDepth 100000 in
theorem mw_383 : Cond.code y_Re_isToldOnce b_Re_isToldOnce 4 (some .boolean) ∈ lw_g := lw_gin (List.mem_append_right _ (List.mem_of_getElem? (i := 709) rfl)) (by decide +kernel)
set_option maxRecDepth 100000 in
theorem mw_384 : Cond.methodLink R_Re 142 y_Re_isToldOnce ∈ lw_g := lw_gin (List.mem_append_right _ (List.mem_of_getElem? (i := 706) rfl)) (by decide +kernel)
set_option maxRecDepth 100000 in
theorem mw_385 : Cond.instanceMethod y_Re_isToldOnce ∈ lw_g := lw_gin (List.mem_append_right _ (List.mem_of_getElem? (i := 708) rfl)) (by decide +kernel)
set_option maxRecDepth 100000 in
theorem mw_386 : Cond.selects R_Re y_Re_isToldOnce y_Re_isToldOnce ∈ lw_g := lw_gin (List.mem_append_left _ (List.mem_of_getElem? (i := 22) rfl)) (by decide +kernel)
set_option maxRecDepth 100000 in
theorem mw_387 : Cond.methodLink R_Re 135 y_No_comesBefore ∈ lw_g := lw_gin (List.mem_append_right _ (List.mem_of_getElem? (i := 704) rfl)) (by decide +kernel)
theorem d_Re_takesNode_0 : decode b_Re_takesNode 0 = .ok (.aload_n 0, 1) := by decide +kernel
theorem d_Re_takesNode_1 : decode b_Re_takesNode 1 = .ok (.getfield 31, 3) := by decide +kernel
theorem d_Re_takesNode_4 : decode b_Re_takesNode 4 = .ok (.getfield 54, 3) := by decide +kernel
theorem d_Re_takesNode_7 : decode b_Re_takesNode 7 = .ok (.aload_n 0, 1) := by decide +kernel
theorem d_Re_takesNode_8 : decode b_Re_takesNode 8 = .ok (.getfield 31, 3) := by decide +kernel
theorem d_Re_takesNode_11 : decode b_Re_takesNode 11 = .ok (.getfield 51, 3) := by decide +kernel
theorem d_Re_takesNode_14 : decode b_Re_takesNode 14 = .ok (.iconst 1, 1) := by decide +kernel
theorem d_Re_takesNode_15 : decode b_Re_takesNode 15 = .ok (.isub, 1) := by decide +kernel
theorem d_Re_takesNode_16 : decode b_Re_takesNode 16 = .ok (.aaload, 1) := by decide +kernel
theorem d_Re_takesNode_17 : decode b_Re_takesNode 17 = .ok (.astore_n 3, 1) := by decide +kernel
theorem d_Re_takesNode_18 : decode b_Re_takesNode 18 = .ok (.aload_n 0, 1) := by decide +kernel
theorem d_Re_takesNode_19 : decode b_Re_takesNode 19 = .ok (.getfield 31, 3) := by decide +kernel
theorem d_Re_takesNode_22 : decode b_Re_takesNode 22 = .ok (.invokevirtual 124, 3) := by decide +kernel
theorem d_Re_takesNode_25 : decode b_Re_takesNode 25 = .ok (.astore 4, 2) := by decide +kernel
theorem d_Re_takesNode_27 : decode b_Re_takesNode 27 = .ok (.aload 4, 2) := by decide +kernel
theorem d_Re_takesNode_29 : decode b_Re_takesNode 29 = .ok (.ifnonnull 5, 3) := by decide +kernel
theorem d_Re_takesNode_32 : decode b_Re_takesNode 32 = .ok (.iconst 0, 1) := by decide +kernel
theorem d_Re_takesNode_33 : decode b_Re_takesNode 33 = .ok (.ireturn, 1) := by decide +kernel
theorem d_Re_takesNode_34 : decode b_Re_takesNode 34 = .ok (.aload 4, 2) := by decide +kernel
theorem d_Re_takesNode_36 : decode b_Re_takesNode 36 = .ok (.aload_n 2, 1) := by decide +kernel
theorem d_Re_takesNode_37 : decode b_Re_takesNode 37 = .ok (.iconst 1, 1) := by decide +kernel
theorem d_Re_takesNode_38 : decode b_Re_takesNode 38 = .ok (.lconst 0, 1) := by decide +kernel
theorem d_Re_takesNode_39 : decode b_Re_takesNode 39 = .ok (.invokevirtual 128, 3) := by decide +kernel
theorem d_Re_takesNode_42 : decode b_Re_takesNode 42 = .ok (.aload_n 0, 1) := by decide +kernel
theorem d_Re_takesNode_43 : decode b_Re_takesNode 43 = .ok (.iload_n 1, 1) := by decide +kernel
theorem d_Re_takesNode_44 : decode b_Re_takesNode 44 = .ok (.aload 4, 2) := by decide +kernel
theorem d_Re_takesNode_46 : decode b_Re_takesNode 46 = .ok (.invokevirtual 101, 3) := by decide +kernel
theorem d_Re_takesNode_49 : decode b_Re_takesNode 49 = .ok (.ifCond .eq 13, 3) := by decide +kernel
theorem d_Re_takesNode_62 : decode b_Re_takesNode 62 = .ok (.iconst 0, 1) := by decide +kernel
theorem d_Re_takesNode_63 : decode b_Re_takesNode 63 = .ok (.ireturn, 1) := by decide +kernel
theorem d_Re_takesNode_52 : decode b_Re_takesNode 52 = .ok (.aload_n 0, 1) := by decide +kernel
theorem d_Re_takesNode_53 : decode b_Re_takesNode 53 = .ok (.iload_n 1, 1) := by decide +kernel
theorem d_Re_takesNode_54 : decode b_Re_takesNode 54 = .ok (.aload 4, 2) := by decide +kernel
theorem d_Re_takesNode_56 : decode b_Re_takesNode 56 = .ok (.invokevirtual 132, 3) := by decide +kernel
theorem d_Re_takesNode_59 : decode b_Re_takesNode 59 = .ok (.ifCond .ne 5, 3) := by decide +kernel
theorem d_Re_takesNode_64 : decode b_Re_takesNode 64 = .ok (.aload_n 3, 1) := by decide +kernel
theorem d_Re_takesNode_65 : decode b_Re_takesNode 65 = .ok (.getfield 114, 3) := by decide +kernel
theorem d_Re_takesNode_68 : decode b_Re_takesNode 68 = .ok (.aload_n 2, 1) := by decide +kernel
theorem d_Re_takesNode_69 : decode b_Re_takesNode 69 = .ok (.if_acmp .ne 14, 3) := by decide +kernel
theorem d_Re_takesNode_83 : decode b_Re_takesNode 83 = .ok (.aload 4, 2) := by decide +kernel
theorem d_Re_takesNode_85 : decode b_Re_takesNode 85 = .ok (.getfield 58, 3) := by decide +kernel
theorem d_Re_takesNode_88 : decode b_Re_takesNode 88 = .ok (.ifCond .eq 22, 3) := by decide +kernel
theorem d_Re_takesNode_110 : decode b_Re_takesNode 110 = .ok (.iconst 1, 1) := by decide +kernel
theorem d_Re_takesNode_111 : decode b_Re_takesNode 111 = .ok (.goto 4, 3) := by decide +kernel
theorem d_Re_takesNode_115 : decode b_Re_takesNode 115 = .ok (.ireturn, 1) := by decide +kernel
theorem d_Re_takesNode_91 : decode b_Re_takesNode 91 = .ok (.aload 4, 2) := by decide +kernel
theorem d_Re_takesNode_93 : decode b_Re_takesNode 93 = .ok (.invokevirtual 138, 3) := by decide +kernel
theorem d_Re_takesNode_96 : decode b_Re_takesNode 96 = .ok (.bipush 6, 2) := by decide +kernel
theorem d_Re_takesNode_98 : decode b_Re_takesNode 98 = .ok (.if_icmp .gt 16, 3) := by decide +kernel
theorem d_Re_takesNode_114 : decode b_Re_takesNode 114 = .ok (.iconst 0, 1) := by decide +kernel
theorem d_Re_takesNode_101 : decode b_Re_takesNode 101 = .ok (.aload_n 0, 1) := by decide +kernel
theorem d_Re_takesNode_102 : decode b_Re_takesNode 102 = .ok (.aload 4, 2) := by decide +kernel
theorem d_Re_takesNode_104 : decode b_Re_takesNode 104 = .ok (.invokevirtual 142, 3) := by decide +kernel
theorem d_Re_takesNode_107 : decode b_Re_takesNode 107 = .ok (.ifCond .eq 7, 3) := by decide +kernel
theorem d_Re_takesNode_72 : decode b_Re_takesNode 72 = .ok (.aload_n 3, 1) := by decide +kernel
theorem d_Re_takesNode_73 : decode b_Re_takesNode 73 = .ok (.aload 4, 2) := by decide +kernel
theorem d_Re_takesNode_75 : decode b_Re_takesNode 75 = .ok (.invokevirtual 135, 3) := by decide +kernel
theorem d_Re_takesNode_78 : decode b_Re_takesNode 78 = .ok (.ifCond .ne 5, 3) := by decide +kernel
theorem d_Re_takesNode_81 : decode b_Re_takesNode 81 = .ok (.iconst 0, 1) := by decide +kernel
theorem d_Re_takesNode_82 : decode b_Re_takesNode 82 = .ok (.ireturn, 1) := by decide +kernel
set_option maxHeartbeats 4000000 in
set_option maxRecDepth 100000 in
theorem t_takesNode (l : Launch) (D : va_G) (t : Nat → ClassId) (G : hG) (ak av : Nat → Nat) (h : hM) (τ : tM) (n : Nat) (r9 : Nat) (a9 : Int32) (e9 : Nat) (tb td md nd : Nat) (wp : Int32) (s8 o8 c8 : Nat) (sl8 : Nat → Option Nat) (hn : n ≤ 200) (hT : TI τ t n h) (T_r9 : τ r9 = (6, 0)) (T_e9 : τ e9 = (10, 1)) (F_r9 : h r9 = some (.inr (5, [.ref tb, .ref td, .ref md, .ref nd, .int wp]))) (hRD : RD t n h nd s8 o8 sl8 c8) (hlv : live sl8 c8 e9) : Met l y_Re_takesNode (.code y_Re_takesNode b_Re_takesNode 5 (some .boolean) :: lw_g) { frames := 6, cells := 0, slots := 0, locals := 136 } (hP (kE D t G ak av) D vwCl G h [.ref r9, .int a9, .ref e9]) (hQi D vwCl G (fun r h' => zb r ∧ TI τ t n h' ∧ kf τ [(10, 1), (7, 1)] [] h h' ∧ (∃ c', c8 ≤ c' ∧ RN t h' nd s8 o8 sl8 c' ∧ (r = 1 → RD t n h' nd s8 o8 sl8 c')))) 0 0 G.P := by
  refine Met.ofW (cc := b_Re_takesNode) (maxL := 5) (ret := (some .boolean)) (by decide) rfl ?_
  intro p e s m args below meth c s₁ Bd hml hv
  obtain ⟨ha, hE, hH⟩ := hv
  have hx := Bd.exec
  have hb := Bd.bytes
  have hr := Bd.returns
  have hts : ∀ w ∈ lw_g, w.before args s = true := fun w hw => atoms_spec (ws := (.code y_Re_takesNode b_Re_takesNode 5 (some .boolean) :: lw_g)) Bd.pre w (List.mem_cons_of_mem _ hw)
  have hown : s.vm.findClass R_Re = some m.cls := findClass_of_methodNamed Bd.named
  have hlocks := Bd.notSynchronized
  have hK := hE.1
  have hH0 := hH
  have hLo : hLc G.P [] := hLc_nil
  have hz : s.heap.size ≤ s.heap.size := Nat.le_refl _
  have hl := lv_entry [.ref r9, .int a9, .ref e9] (n := 5) (Nat.le_of_ble_eq_true rfl)
  rw [show entryFrame m args 5 = F0 m 0 ((lg_sl [.ref r9, .int a9, .ref e9] ++ List.replicate (5 - (lg_sl [.ref r9, .int a9, .ref e9]).length) Slot.unset).toArray) [] from (by rw [ha]; exact lg_entry_eq m [.ref r9, .int a9, .ref e9] 5)]
  generalize (lg_sl [.ref r9, .int a9, .ref e9] ++ List.replicate (5 - (lg_sl [.ref r9, .int a9, .ref e9]).length) Slot.unset).toArray = ls at hl ⊢
  have hl : lv_has ls 5 [(0, .ref r9), (1, .int a9), (2, .ref e9)] := hl
  have hkf : kf τ [(10, 1), (7, 1)] [] h h := kf_rf
  obtain ⟨Tr0, Tr1, Tr2, Tr3⟩ := TJ_rdr (v2 := some md) (v3 := some nd) hT T_r9 F_r9
  have T_md := Tr2 md rfl
  have T_nd := Tr3 nd rfl
  have hR0 := hRD
  obtain ⟨⟨F_nd, F_s8⟩, hc1, hc30, hrd, hrg⟩ := hRD
  obtain ⟨Tn0, Tn1, -⟩ := TJ_nds hT T_nd F_nd
  obtain ⟨Tn2, Tn3⟩ := TJ_slo hT Tn0 F_s8
  have hcI : (nI c8).toInt = c8 := nI_toInt (by omega)
  have hI0 := hT
  refine lv_aload_n hx hb d_Re_takesNode_0 rfl (lv_at hl 0 rfl) ?_
  refine hm_get (ci := 5) (v := .ref nd) (C := R_Re) (T := F_Re) (N := 5) hx hb hts ig_Re hown hK hH F_r9 rfl 3 (by decide) (hts _ mw_342) (fun _ h9 => h9) rfl d_Re_takesNode_1 ?_
  refine hm_get (ci := 2) (v := .ref s8) (C := R_Ns) (T := F_Ns) (N := 4) hx hb hts ig_Ns hown hK hH F_nd rfl 0 (by decide) (hts _ mw_344) (fun _ h9 => h9) rfl d_Re_takesNode_4 ?_
  refine lv_aload_n hx hb d_Re_takesNode_7 rfl (lv_at hl 0 rfl) ?_
  refine hm_get (ci := 5) (v := .ref nd) (C := R_Re) (T := F_Re) (N := 5) hx hb hts ig_Re hown hK hH F_r9 rfl 3 (by decide) (hts _ mw_342) (fun _ h9 => h9) rfl d_Re_takesNode_8 ?_
  refine hm_get (ci := 2) (v := .int (nI c8)) (C := R_Ns) (T := F_Ns) (N := 4) hx hb hts ig_Ns hown hK hH F_nd rfl 2 (by decide) (hts _ mw_343) (fun _ h9 => h9) rfl d_Re_takesNode_11 ?_
  refine lv_iconst (v := 1) hx hb d_Re_takesNode_14 (by decide) ?_
  refine lv_isub hx hb d_Re_takesNode_15 ?_
  refine lv_topi (fun v_1 e_2 => ?_)
  have is_3 : v_1.toInt = (nI c8).toInt - 1 := by rw [e_2]; exact iDecS 1 rfl (by decide) (by omega)
  obtain ⟨a_4, e_5, T_6⟩ := Tn2 v_1.toNatClampNeg (iCl (by omega) (by omega))
  refine hm_aald (v := .ref a_4) hx hb hK hH 4 F_s8 (C := R_No) rfl (iIn (by omega) (by omega)) (by rw [e_5]; rfl) d_Re_takesNode_16 ?_
  refine lv_astore_n (lv' := [(3, .ref a_4), (0, .ref r9), (1, .int a9), (2, .ref e9)]) hx hb d_Re_takesNode_17 rfl hl (by decide) rfl (fun ls hl => ?_)
  refine lv_aload_n hx hb d_Re_takesNode_18 rfl (lv_at hl 1 rfl) ?_
  refine hm_get (ci := 5) (v := .ref nd) (C := R_Re) (T := F_Re) (N := 5) hx hb hts ig_Re hown hK hH F_r9 rfl 3 (by decide) (hts _ mw_342) (fun _ h9 => h9) rfl d_Re_takesNode_19 ?_
  have O_N : Nds t h nd s8 o8 (nI c8) (nI c8) sl8 := ⟨F_nd, F_s8⟩
  refine hm_callr (va_runV (As := []) (b := nd) (rest := []) ⟨hx, hb, hml, hown, hts⟩ (t_append l D t G ak av h τ n 1 nd  hn hT T_nd) ⟨cw9B 0 hts mw_163 mw_375 mw_132 rfl rfl (by decide +kernel) ⟨Nat.le_of_ble_eq_true rfl, Nat.le_of_ble_eq_true rfl⟩, hts _ mw_165, hts _ mw_166⟩ (hP_V (q := (R_Ns, F_Ns, 4)) kE_ok hE hK hH F_nd rfl) rfl rfl hl.1 rfl (lv_room (Nat.le_of_ble_eq_true rfl)) d_Re_takesNode_22 ⟨Nat.le_of_ble_eq_true rfl, Nat.le_of_ble_eq_true rfl⟩) hLo (fun r_7 h_8 H_9 locs hp_11 hH z_10 hLo => ?_)
  have hz : s.heap.size ≤ H_9.size := Nat.le_trans hz z_10
  have hT0 := hT
  obtain ⟨c_12, hT, kf_14, xp_13⟩ := hp_11
  have F_r9 : h_8 r9 = some (.inr (5, [.ref tb, .ref td, .ref md, .ref nd, .int wp])) := kf_at kf_14 T_r9 (by decide) (tnc (by decide) tn0) (nmc (tne T_r9 T_nd (by decide)) nm0) F_r9
  have F_s8 : h_8 s8 = some (.inl ((t 4), 30, .inr (.inr (.inr (.inr sl8))))) := kf_at kf_14 Tn0 (by decide) (tnc (by decide) tn0) (nmc (tne Tn0 T_nd (by decide)) nm0) F_s8
  have hkf : kf τ [(10, 1), (7, 1)] [] h h_8 := kf_tr hkf kf_14 (List.forall_mem_cons.mpr ⟨List.mem_cons_self, List.forall_mem_nil _⟩) (List.forall_mem_cons.mpr ⟨Or.inr (by rw [T_nd]; exact (List.mem_cons_of_mem _ List.mem_cons_self)), List.forall_mem_nil _⟩)
  rcases xp_13 _ _ _ _ _ O_N with ⟨h81, h82, -⟩ | ⟨a8, h81, hlt8, hsl8, hP8, ⟨x8, y8, h83, h84⟩, hfr8⟩
  · skip
    subst h81
    refine lv_astoreN (lv' := [(4, .null), (3, .ref a_4), (0, .ref r9), (1, .int a9), (2, .ref e9)]) hx hb d_Re_takesNode_25 hl (by decide) rfl (fun ls hl => ?_)
    refine lv_aloadN hx hb d_Re_takesNode_27 (lv_at hl 0 rfl) ?_
    refine lv_ifnonnullN hx hb d_Re_takesNode_29 ?_
    refine lv_iconst (v := 0) hx hb d_Re_takesNode_32 (by decide) ?_
    exact W.zret (v := 0) hx hb hr (by decide) (fun t9 ht hW => ⟨0, h_8, rfl, ⟨zb0, hT, hkf, ⟨c8, Nat.le_refl _, by rw [← h82]; exact RD_RN hR0, fun z => absurd z (by decide)⟩⟩, by rw [ht]; exact hH, by rw [ht]; exact hz⟩) hLo d_Re_takesNode_33
  · skip
    subst h81
    have T_a8 := c_12 a8 rfl
    refine lv_astore (lv' := [(4, .ref a8), (3, .ref a_4), (0, .ref r9), (1, .int a9), (2, .ref e9)]) hx hb d_Re_takesNode_25 hl (by decide) rfl (fun ls hl => ?_)
    refine lv_aload hx hb d_Re_takesNode_27 (lv_at hl 0 rfl) ?_
    refine lv_ifnonnull (tgt := 34) hx hb d_Re_takesNode_29 (by decide) ?_
    refine lv_aload hx hb d_Re_takesNode_34 (lv_at hl 0 rfl) ?_
    refine lv_aload_n hx hb d_Re_takesNode_36 rfl (lv_at hl 4 rfl) ?_
    refine lv_iconst (v := 1) hx hb d_Re_takesNode_37 (by decide) ?_
    refine lv_lconst (v := 0) hx hb d_Re_takesNode_38 (by decide) ?_
    obtain ⟨v_15, v_16, v_18, v_20, v_21, v_23, v_24, v_25, v_27, v_28, v_29, F_a8, c_17, c_19, c_22, c_26⟩ := TI_node hT T_a8
    refine hm_callv (va_runV (As := [.ref e9, .int 1, .long 0]) (b := a8) (rest := []) ⟨hx, hb, hml, hown, hts⟩ (t_become1 l D t G ak av h_8 τ n 1 a8 e9 (1 : Int32) 0  hn hT T_a8 T_e9 zb1) ⟨cw9B 3 hts mw_167 mw_376 mw_106 rfl rfl (by decide +kernel) ⟨Nat.le_of_ble_eq_true rfl, Nat.le_of_ble_eq_true rfl⟩, hts _ mw_169, hts _ mw_170⟩ (hP_V (q := (R_No, F_No, 11)) kE_ok hE hK hH F_a8 rfl) rfl rfl hl.1 rfl (lv_room (Nat.le_of_ble_eq_true rfl)) d_Re_takesNode_39 ⟨Nat.le_of_ble_eq_true rfl, Nat.le_of_ble_eq_true rfl⟩) hLo (fun h_30 H_31 locs hp_33 hH z_32 hLo => ?_)
    have hz : s.heap.size ≤ H_31.size := Nat.le_trans hz z_32
    have hT0 := hT
    obtain ⟨hT, kf_35, xp_34⟩ := hp_33
    have F_r9 : h_30 r9 = some (.inr (5, [.ref tb, .ref td, .ref md, .ref nd, .int wp])) := kf_at kf_35 T_r9 (by decide) tn0 (nmc (tne T_r9 T_a8 (by decide)) nm0) F_r9
    have F_s8 : h_30 s8 = some (.inl ((t 4), 30, .inr (.inr (.inr (.inr sl8))))) := kf_at kf_35 Tn0 (by decide) tn0 (nmc (tne Tn0 T_a8 (by decide)) nm0) F_s8
    have hkf : kf τ [(10, 1), (7, 1)] [] h h_30 := kf_tr hkf kf_35 (List.forall_mem_nil _) (List.forall_mem_cons.mpr ⟨Or.inr (by rw [T_a8]; exact List.mem_cons_self), List.forall_mem_nil _⟩)
    have hRb : RDb t n h_30 nd s8 o8 sl8 c8 a8 := RD_app (S3 := []) hI0 T_nd hR0 hlt8 hsl8 hP8 h84 hfr8 hlv kf_35 xp_34
    refine lv_aload_n hx hb d_Re_takesNode_42 rfl (lv_at hl 2 rfl) ?_
    refine lv_iload_n hx hb d_Re_takesNode_43 rfl (lv_at hl 3 rfl) ?_
    refine lv_aload hx hb d_Re_takesNode_44 (lv_at hl 0 rfl) ?_
    refine hm_calli (va_runV (As := [.int a9, .ref a8]) (b := r9) (rest := []) ⟨hx, hb, hml, hown, hts⟩ (t_takesRec l D t G ak av h_30 τ n 1 r9 a9 a8 tb td md nd wp  hn hT T_r9 T_a8  F_r9) ⟨cw9B 2 hts mw_367 mw_368 mw_332 rfl rfl (by decide +kernel) ⟨Nat.le_of_ble_eq_true rfl, Nat.le_of_ble_eq_true rfl⟩, hts _ mw_369, hts _ mw_370⟩ (hP_V (q := (R_Re, F_Re, 5)) kE_ok hE hK hH F_r9 rfl) rfl rfl hl.1 rfl (lv_room (Nat.le_of_ble_eq_true rfl)) d_Re_takesNode_46 ⟨Nat.le_of_ble_eq_true rfl, Nat.le_of_ble_eq_true rfl⟩) hLo (fun r_36 h_37 H_38 locs hp_40 hH z_39 hLo => ?_)
    have hz : s.heap.size ≤ H_38.size := Nat.le_trans hz z_39
    have hT0 := hT
    obtain ⟨c_41, hT, kf_43, xk_44, xp_42⟩ := hp_40
    have F_r9 : h_37 r9 = some (.inr (5, [.ref tb, .ref td, .ref md, .ref nd, .int wp])) := kf_at kf_43 T_r9 (by decide) tn0 (nmc (tne T_r9 T_a8 (by decide)) nm0) F_r9
    have F_s8 : h_37 s8 = some (.inl ((t 4), 30, .inr (.inr (.inr (.inr sl8))))) := kf_at kf_43 Tn0 (by decide) tn0 (nmc (tne Tn0 T_a8 (by decide)) nm0) F_s8
    have hRb : RDb t n h_37 nd s8 o8 sl8 c8 a8 := RDb_call hT0 T_nd T_a8 hRb kf_43 xk_44
    have hkf : kf τ [(10, 1), (7, 1)] [] h h_37 := kf_tr hkf kf_43 (List.forall_mem_nil _) (List.forall_mem_cons.mpr ⟨Or.inr (by rw [T_a8]; exact List.mem_cons_self), List.forall_mem_nil _⟩)
    rcases c_41 with rfl | rfl
    · skip
      refine lv_if_eq (tgt := 62) hx hb d_Re_takesNode_49 (by decide) (fun hc_45 => ?_) (fun hc_45 => absurd hc_45 (by decide))
      refine lv_iconst (v := 0) hx hb d_Re_takesNode_62 (by decide) ?_
      exact W.zret (v := 0) hx hb hr (by decide) (fun t9 ht hW => ⟨0, h_37, rfl, ⟨zb0, hT, hkf, ⟨c8 + 1, by omega, RDb_RN hRb, fun z => absurd z (by decide)⟩⟩, by rw [ht]; exact hH, by rw [ht]; exact hz⟩) hLo d_Re_takesNode_63
    · skip
      have hra8 := xp_42 rfl
      refine lv_if_eq (tgt := 62) hx hb d_Re_takesNode_49 (by decide) (fun hc_46 => absurd hc_46 (by decide)) (fun hc_46 => ?_)
      refine lv_aload_n hx hb d_Re_takesNode_52 rfl (lv_at hl 2 rfl) ?_
      refine lv_iload_n hx hb d_Re_takesNode_53 rfl (lv_at hl 3 rfl) ?_
      refine lv_aload hx hb d_Re_takesNode_54 (lv_at hl 0 rfl) ?_
      refine hm_calli (va_runV (As := [.int a9, .ref a8]) (b := r9) (rest := []) ⟨hx, hb, hml, hown, hts⟩ (t_takesId l D t G ak av h_37 τ n 1 r9 a9 a8 tb td md nd wp  hn hT T_r9 T_a8  F_r9) ⟨cw9B 2 hts mw_377 mw_378 mw_332 rfl rfl (by decide +kernel) ⟨Nat.le_of_ble_eq_true rfl, Nat.le_of_ble_eq_true rfl⟩, hts _ mw_379, hts _ mw_380⟩ (hP_V (q := (R_Re, F_Re, 5)) kE_ok hE hK hH F_r9 rfl) rfl rfl hl.1 rfl (lv_room (Nat.le_of_ble_eq_true rfl)) d_Re_takesNode_56 ⟨Nat.le_of_ble_eq_true rfl, Nat.le_of_ble_eq_true rfl⟩) hLo (fun r_47 h_48 H_49 locs hp_51 hH z_50 hLo => ?_)
      have hz : s.heap.size ≤ H_49.size := Nat.le_trans hz z_50
      have hT0 := hT
      obtain ⟨c_52, hT, kf_54, xk_55, xp_53⟩ := hp_51
      have F_r9 : h_48 r9 = some (.inr (5, [.ref tb, .ref td, .ref md, .ref nd, .int wp])) := kf_at kf_54 T_r9 (by decide) tn0 (nmc (tne T_r9 T_a8 (by decide)) nm0) F_r9
      have F_s8 : h_48 s8 = some (.inl ((t 4), 30, .inr (.inr (.inr (.inr sl8))))) := kf_at kf_54 Tn0 (by decide) tn0 (nmc (tne Tn0 T_a8 (by decide)) nm0) F_s8
      have hRb : RDb t n h_48 nd s8 o8 sl8 c8 a8 := RDb_call hT0 T_nd T_a8 hRb kf_54 xk_55
      have hkf : kf τ [(10, 1), (7, 1)] [] h h_48 := kf_tr hkf kf_54 (List.forall_mem_nil _) (List.forall_mem_cons.mpr ⟨Or.inr (by rw [T_a8]; exact List.mem_cons_self), List.forall_mem_nil _⟩)
      rcases c_52 with rfl | rfl
      · skip
        refine lv_if_ne (tgt := 64) hx hb d_Re_takesNode_59 (by decide) (fun hc_56 => absurd hc_56 (by decide)) (fun hc_56 => ?_)
        refine lv_iconst (v := 0) hx hb d_Re_takesNode_62 (by decide) ?_
        exact W.zret (v := 0) hx hb hr (by decide) (fun t9 ht hW => ⟨0, h_48, rfl, ⟨zb0, hT, hkf, ⟨c8 + 1, by omega, RDb_RN hRb, fun z => absurd z (by decide)⟩⟩, by rw [ht]; exact hH, by rw [ht]; exact hz⟩) hLo d_Re_takesNode_63
      · skip
        have hra8 := xp_53 rfl hra8
        refine lv_if_ne (tgt := 64) hx hb d_Re_takesNode_59 (by decide) (fun hc_57 => ?_) (fun hc_57 => absurd hc_57 (by decide))
        refine lv_aload_n hx hb d_Re_takesNode_64 rfl (lv_at hl 1 rfl) ?_
        obtain ⟨v_58, v_59, v_61, v_63, v_64, v_66, v_67, v_68, v_70, v_71, v_72, F_a_4, c_60, c_62, c_65, c_69⟩ := TI_node hT T_6
        refine hm_get (ci := 1) (v := va_rf v_59) (C := R_No) (T := F_No) (N := 11) hx hb hts ig_No hown hK hH F_a_4 rfl 1 (by decide) (hts _ mw_381) (fun _ h9 => h9) rfl d_Re_takesNode_65 ?_
        refine lv_aload_n hx hb d_Re_takesNode_68 rfl (lv_at hl 4 rfl) ?_
        refine lv_acmp_ne (rx := v_59) (ry := some e9) (tgt := 83) hx hb d_Re_takesNode_69 (by decide) (fun hc_73 => ?_) (fun hc_73 => ?_)
        · skip
          refine lv_aload hx hb d_Re_takesNode_83 (lv_at hl 0 rfl) ?_
          obtain ⟨v_74, v_75, v_77, v_79, v_80, v_82, v_83, v_84, v_86, v_87, v_88, F_a8, c_76, c_78, c_81, c_85⟩ := TI_node hT T_a8
          refine hm_get (ci := 1) (v := .int v_77) (C := R_No) (T := F_No) (N := 11) hx hb hts ig_No hown hK hH F_a8 rfl 2 (by decide) (hts _ mw_345) (fun _ h9 => h9) rfl d_Re_takesNode_85 ?_
          refine lv_if_eq (tgt := 110) hx hb d_Re_takesNode_88 (by decide) (fun hc_89 => ?_) (fun hc_89 => ?_)
          · skip
            have ic_90 : v_77.toInt = 0 := congrArg Int32.toInt hc_89
            refine lv_iconst (v := 1) hx hb d_Re_takesNode_110 (by decide) ?_
            refine lv_goto (tgt := 115) hx hb d_Re_takesNode_111 (by decide) ?_
            exact W.zret (v := 1) hx hb hr (by decide) (fun t9 ht hW => ⟨1, h_48, rfl, ⟨zb1, hT, hkf, ⟨c8 + 1, by omega, RDb_RN hRb, fun _ => RDb_RD hRb hra8⟩⟩, by rw [ht]; exact hH, by rw [ht]; exact hz⟩) hLo d_Re_takesNode_115
          · skip
            refine lv_aload hx hb d_Re_takesNode_91 (lv_at hl 0 rfl) ?_
            refine hm_callPi (va_runV (As := []) (b := a8) (rest := []) ⟨hx, hb, hml, hown, hts⟩ (t_depth l D t G ak av h_48 τ n 1 a8  hn hT T_a8 (RDb_ch hRb)) ⟨cw9B 0 hts mw_143 mw_382 mw_106 rfl rfl (by decide +kernel) ⟨Nat.le_of_ble_eq_true rfl, Nat.le_of_ble_eq_true rfl⟩, hts _ mw_145, hts _ mw_146⟩ (hP_V (q := (R_No, F_No, 11)) kE_ok hE hK hH F_a8 rfl) rfl rfl hl.1 rfl (lv_room (Nat.le_of_ble_eq_true rfl)) d_Re_takesNode_93 ⟨Nat.le_of_ble_eq_true rfl, Nat.le_of_ble_eq_true rfl⟩) (fun r_91 h_92 H_93 hp_95  hH z_94 => ?_)
            have hz : s.heap.size ≤ H_93.size := Nat.le_trans hz z_94
            obtain rfl := hp_95
            refine lv_bipush (v := 6) hx hb d_Re_takesNode_96 (by decide) ?_
            refine lv_icmp_gt (tgt := 114) hx hb d_Re_takesNode_98 (by decide) (fun hc_97 => ?_) (fun hc_97 => ?_)
            · skip
              have ic_98 : 6 < r_91.toInt := iLt hc_97
              have iu_99 : r_91.toInt < 2147483648 := iUp _
              refine lv_iconst (v := 0) hx hb d_Re_takesNode_114 (by decide) ?_
              exact W.zret (v := 0) hx hb hr (by decide) (fun t9 ht hW => ⟨0, h_48, rfl, ⟨zb0, hT, hkf, ⟨c8 + 1, by omega, RDb_RN hRb, fun z => absurd z (by decide)⟩⟩, by rw [ht]; exact hH, by rw [ht]; exact hz⟩) hLo d_Re_takesNode_115
            · skip
              have ic_100 : r_91.toInt ≤ 6 := iNl hc_97
              refine lv_aload_n hx hb d_Re_takesNode_101 rfl (lv_at hl 2 rfl) ?_
              refine lv_aload hx hb d_Re_takesNode_102 (lv_at hl 0 rfl) ?_
              refine hm_callPi (va_runV (As := [.ref a8]) (b := r9) (rest := []) ⟨hx, hb, hml, hown, hts⟩ (t_toldOnce l D t G ak av h_48 τ n 1 r9 a8 tb td md nd wp  hn hT T_r9 T_a8  F_r9) ⟨cw9B 1 hts mw_383 mw_384 mw_332 rfl rfl (by decide +kernel) ⟨Nat.le_of_ble_eq_true rfl, Nat.le_of_ble_eq_true rfl⟩, hts _ mw_385, hts _ mw_386⟩ (hP_V (q := (R_Re, F_Re, 5)) kE_ok hE hK hH F_r9 rfl) rfl rfl hl.1 rfl (lv_room (Nat.le_of_ble_eq_true rfl)) d_Re_takesNode_104 ⟨Nat.le_of_ble_eq_true rfl, Nat.le_of_ble_eq_true rfl⟩) (fun r_101 h_102 H_103 hp_105  hH z_104 => ?_)
              have hz : s.heap.size ≤ H_103.size := Nat.le_trans hz z_104
              obtain ⟨c_106, rfl⟩ := hp_105
              refine lv_if_eq (tgt := 114) hx hb d_Re_takesNode_107 (by decide) (fun hc_108 => ?_) (fun hc_108 => ?_)
              · skip
                have ic_109 : r_101.toInt = 0 := congrArg Int32.toInt hc_108
                refine lv_iconst (v := 0) hx hb d_Re_takesNode_114 (by decide) ?_
                exact W.zret (v := 0) hx hb hr (by decide) (fun t9 ht hW => ⟨0, h_48, rfl, ⟨zb0, hT, hkf, ⟨c8 + 1, by omega, RDb_RN hRb, fun z => absurd z (by decide)⟩⟩, by rw [ht]; exact hH, by rw [ht]; exact hz⟩) hLo d_Re_takesNode_115
              · skip
                refine lv_iconst (v := 1) hx hb d_Re_takesNode_110 (by decide) ?_
                refine lv_goto (tgt := 115) hx hb d_Re_takesNode_111 (by decide) ?_
                exact W.zret (v := 1) hx hb hr (by decide) (fun t9 ht hW => ⟨1, h_48, rfl, ⟨zb1, hT, hkf, ⟨c8 + 1, by omega, RDb_RN hRb, fun _ => RDb_RD hRb hra8⟩⟩, by rw [ht]; exact hH, by rw [ht]; exact hz⟩) hLo d_Re_takesNode_115
        · skip
          refine lv_aload_n hx hb d_Re_takesNode_72 rfl (lv_at hl 1 rfl) ?_
          refine lv_aload hx hb d_Re_takesNode_73 (lv_at hl 0 rfl) ?_
          refine hm_callPi (va_runV (As := [.ref a8]) (b := a_4) (rest := []) ⟨hx, hb, hml, hown, hts⟩ (t_before l D t G ak av h_48 τ n 1 1 a_4 a8  hn hT T_6 T_a8) ⟨cw9B 1 hts mw_153 mw_387 mw_106 rfl rfl (by decide +kernel) ⟨Nat.le_of_ble_eq_true rfl, Nat.le_of_ble_eq_true rfl⟩, hts _ mw_155, hts _ mw_156⟩ (hP_V (q := (R_No, F_No, 11)) kE_ok hE hK hH F_a_4 rfl) rfl rfl hl.1 rfl (lv_room (Nat.le_of_ble_eq_true rfl)) d_Re_takesNode_75 ⟨Nat.le_of_ble_eq_true rfl, Nat.le_of_ble_eq_true rfl⟩) (fun r_110 h_111 H_112 hp_114  hH z_113 => ?_)
          have hz : s.heap.size ≤ H_112.size := Nat.le_trans hz z_113
          obtain ⟨c_115, rfl⟩ := hp_114
          refine lv_if_ne (tgt := 83) hx hb d_Re_takesNode_78 (by decide) (fun hc_117 => ?_) (fun hc_117 => ?_)
          · skip
            refine lv_aload hx hb d_Re_takesNode_83 (lv_at hl 0 rfl) ?_
            obtain ⟨v_118, v_119, v_121, v_123, v_124, v_126, v_127, v_128, v_130, v_131, v_132, F_a8, c_120, c_122, c_125, c_129⟩ := TI_node hT T_a8
            refine hm_get (ci := 1) (v := .int v_121) (C := R_No) (T := F_No) (N := 11) hx hb hts ig_No hown hK hH F_a8 rfl 2 (by decide) (hts _ mw_345) (fun _ h9 => h9) rfl d_Re_takesNode_85 ?_
            refine lv_if_eq (tgt := 110) hx hb d_Re_takesNode_88 (by decide) (fun hc_133 => ?_) (fun hc_133 => ?_)
            · skip
              have ic_134 : v_121.toInt = 0 := congrArg Int32.toInt hc_133
              refine lv_iconst (v := 1) hx hb d_Re_takesNode_110 (by decide) ?_
              refine lv_goto (tgt := 115) hx hb d_Re_takesNode_111 (by decide) ?_
              exact W.zret (v := 1) hx hb hr (by decide) (fun t9 ht hW => ⟨1, h_48, rfl, ⟨zb1, hT, hkf, ⟨c8 + 1, by omega, RDb_RN hRb, fun _ => RDb_RD hRb hra8⟩⟩, by rw [ht]; exact hH, by rw [ht]; exact hz⟩) hLo d_Re_takesNode_115
            · skip
              refine lv_aload hx hb d_Re_takesNode_91 (lv_at hl 0 rfl) ?_
              refine hm_callPi (va_runV (As := []) (b := a8) (rest := []) ⟨hx, hb, hml, hown, hts⟩ (t_depth l D t G ak av h_48 τ n 1 a8  hn hT T_a8 (RDb_ch hRb)) ⟨cw9B 0 hts mw_143 mw_382 mw_106 rfl rfl (by decide +kernel) ⟨Nat.le_of_ble_eq_true rfl, Nat.le_of_ble_eq_true rfl⟩, hts _ mw_145, hts _ mw_146⟩ (hP_V (q := (R_No, F_No, 11)) kE_ok hE hK hH F_a8 rfl) rfl rfl hl.1 rfl (lv_room (Nat.le_of_ble_eq_true rfl)) d_Re_takesNode_93 ⟨Nat.le_of_ble_eq_true rfl, Nat.le_of_ble_eq_true rfl⟩) (fun r_135 h_136 H_137 hp_139  hH z_138 => ?_)
              have hz : s.heap.size ≤ H_137.size := Nat.le_trans hz z_138
              obtain rfl := hp_139
              refine lv_bipush (v := 6) hx hb d_Re_takesNode_96 (by decide) ?_
              refine lv_icmp_gt (tgt := 114) hx hb d_Re_takesNode_98 (by decide) (fun hc_141 => ?_) (fun hc_141 => ?_)
              · skip
                have ic_142 : 6 < r_135.toInt := iLt hc_141
                have iu_143 : r_135.toInt < 2147483648 := iUp _
                refine lv_iconst (v := 0) hx hb d_Re_takesNode_114 (by decide) ?_
                exact W.zret (v := 0) hx hb hr (by decide) (fun t9 ht hW => ⟨0, h_48, rfl, ⟨zb0, hT, hkf, ⟨c8 + 1, by omega, RDb_RN hRb, fun z => absurd z (by decide)⟩⟩, by rw [ht]; exact hH, by rw [ht]; exact hz⟩) hLo d_Re_takesNode_115
              · skip
                have ic_144 : r_135.toInt ≤ 6 := iNl hc_141
                refine lv_aload_n hx hb d_Re_takesNode_101 rfl (lv_at hl 2 rfl) ?_
                refine lv_aload hx hb d_Re_takesNode_102 (lv_at hl 0 rfl) ?_
                refine hm_callPi (va_runV (As := [.ref a8]) (b := r9) (rest := []) ⟨hx, hb, hml, hown, hts⟩ (t_toldOnce l D t G ak av h_48 τ n 1 r9 a8 tb td md nd wp  hn hT T_r9 T_a8  F_r9) ⟨cw9B 1 hts mw_383 mw_384 mw_332 rfl rfl (by decide +kernel) ⟨Nat.le_of_ble_eq_true rfl, Nat.le_of_ble_eq_true rfl⟩, hts _ mw_385, hts _ mw_386⟩ (hP_V (q := (R_Re, F_Re, 5)) kE_ok hE hK hH F_r9 rfl) rfl rfl hl.1 rfl (lv_room (Nat.le_of_ble_eq_true rfl)) d_Re_takesNode_104 ⟨Nat.le_of_ble_eq_true rfl, Nat.le_of_ble_eq_true rfl⟩) (fun r_145 h_146 H_147 hp_149  hH z_148 => ?_)
                have hz : s.heap.size ≤ H_147.size := Nat.le_trans hz z_148
                obtain ⟨c_150, rfl⟩ := hp_149
                refine lv_if_eq (tgt := 114) hx hb d_Re_takesNode_107 (by decide) (fun hc_152 => ?_) (fun hc_152 => ?_)
                · skip
                  have ic_153 : r_145.toInt = 0 := congrArg Int32.toInt hc_152
                  refine lv_iconst (v := 0) hx hb d_Re_takesNode_114 (by decide) ?_
                  exact W.zret (v := 0) hx hb hr (by decide) (fun t9 ht hW => ⟨0, h_48, rfl, ⟨zb0, hT, hkf, ⟨c8 + 1, by omega, RDb_RN hRb, fun z => absurd z (by decide)⟩⟩, by rw [ht]; exact hH, by rw [ht]; exact hz⟩) hLo d_Re_takesNode_115
                · skip
                  refine lv_iconst (v := 1) hx hb d_Re_takesNode_110 (by decide) ?_
                  refine lv_goto (tgt := 115) hx hb d_Re_takesNode_111 (by decide) ?_
                  exact W.zret (v := 1) hx hb hr (by decide) (fun t9 ht hW => ⟨1, h_48, rfl, ⟨zb1, hT, hkf, ⟨c8 + 1, by omega, RDb_RN hRb, fun _ => RDb_RD hRb hra8⟩⟩, by rw [ht]; exact hH, by rw [ht]; exact hz⟩) hLo d_Re_takesNode_115
          · skip
            have ic_154 : r_110.toInt = 0 := congrArg Int32.toInt hc_117
            refine lv_iconst (v := 0) hx hb d_Re_takesNode_81 (by decide) ?_
            exact W.zret (v := 0) hx hb hr (by decide) (fun t9 ht hW => ⟨0, h_48, rfl, ⟨zb0, hT, hkf, ⟨c8 + 1, by omega, RDb_RN hRb, fun z => absurd z (by decide)⟩⟩, by rw [ht]; exact hH, by rw [ht]; exact hz⟩) hLo d_Re_takesNode_82
