set_option maxRecDepth 100000 in
theorem mw_375 : Cond.methodLink R_Re 124 y_Ns_append ∈ lw_g := lw_gin (List.mem_append_right _ (List.mem_of_getElem? (i := 694) rfl)) (by decide +kernel)
set_option maxRecDepth 100000 in
theorem mw_376 : Cond.methodLink R_Re 128 y_No_become ∈ lw_g := lw_gin (List.mem_append_right _ (List.mem_of_getElem? (i := 695) rfl)) (by decide +kernel)
set_option maxRecDepth 100000 in
theorem mw_377 : Cond.code y_Re_takesIdentifier b_Re_takesIdentifier 9 (some .boolean) ∈ lw_g := lw_gin (List.mem_append_right _ (List.mem_of_getElem? (i := 699) rfl)) (by decide +kernel)
set_option maxRecDepth 100000 in
theorem mw_378 : Cond.methodLink R_Re 132 y_Re_takesIdentifier ∈ lw_g := lw_gin (List.mem_append_right _ (List.mem_of_getElem? (i := 696) rfl)) (by decide +kernel)
set_option maxRecDepth 100000 in
theorem mw_379 : Cond.instanceMethod y_Re_takesIdentifier ∈ lw_g := lw_gin (List.mem_append_right _ (List.mem_of_getElem? (i := 698) rfl)) (by decide +kernel)
set_option maxRecDepth 100000 in
theorem mw_380 : Cond.selects R_Re y_Re_takesIdentifier y_Re_takesIdentifier ∈ lw_g := lw_gin (List.mem_append_left _ (List.mem_of_getElem? (i := 21) rfl)) (by decide +kernel)
set_option maxRecDepth 100000 in
theorem mw_381 : Cond.fieldLink R_Re 114 "WriteOnceDisc$Node" "parent" "LWriteOnceDisc$Node;" ∈ lw_g := lw_gin (List.mem_append_right _ (List.mem_of_getElem? (i := 95) rfl)) (by decide +kernel)
set_option maxRecDepth 100000 in
theorem mw_382 : Cond.methodLink R_Re 138 y_No_depth ∈ lw_g := lw_gin (List.mem_append_right _ (List.mem_of_getElem? (i := 705) rfl)) (by decide +kernel)
set_option maxRecDepth 100000 in
theorem mw_383 : Cond.code y_Re_isToldOnce b_Re_isToldOnce 4 (some .boolean) ∈ lw_g := lw_gin (List.mem_append_right _ (List.mem_of_getElem? (i := 709) rfl)) (by decide +kernel)
set_option maxRecDepth 100000 in
theorem mw_384 : Cond.methodLink R_Re 142 y_Re_isToldOnce ∈ lw_g := lw_gin (List.mem_append_right _ (List.mem_of_getElem? (i := 706) rfl)) (by decide +kernel)
set_option maxRecDepth 100000 in
theorem mw_385 : Cond.instanceMethod y_Re_isToldOnce ∈ lw_g := lw_gin (List.mem_append_right _ (List.mem_of_getElem? (i := 708) rfl)) (by decide +kernel)
set_option maxRecDepth 100000 in
theorem mw_386 : Cond.selects R_Re y_Re_isToldOnce y_Re_isToldOnce ∈ lw_g := lw_gin (List.mem_append_left _ (List.mem_of_getElem? (i := 22) rfl)) (by decide +kernel)
set_option maxRecDepth 100000 in
theorem mw_387 : Cond.methodLink R_Re 135 y_No_comesBefore ∈ lw_g := lw_gin (List.mem_append_right _ (List.mem_of_getElem? (i := 704) rfl)) (by decide +kernel)
theorem d_Re_takesNode_0 : decode b_Re_takesNode 0 = .ok (.aload_n 0, 1) := by decide +kernel
theorem d_Re_takesNode_1 : decode b_Re_takesNode 1 = .ok (.getfield 31, 3) := by decide +kernel
theorem d_Re_takesNode_4 : decode b_Re_takesNode 4 = .ok (.getfield 54, 3) := by decide +kernel
theorem d_Re_takesNode_7 : decode b_Re_takesNode 7 = .ok (.aload_n 0, 1) := by decide +kernel
theorem d_Re_takesNode_8 : decode b_Re_takesNode 8 = .ok (.getfield 31, 3) := by decide +kernel
theorem d_Re_takesNode_11 : decode b_Re_takesNode 11 = .ok (.getfield 51, 3) := by decide +kernel
theorem d_Re_takesNode_14 : decode b_Re_takesNode 14 = .ok (.iconst 1, 1) := by decide +kernel
theorem d_Re_takesNode_15 : decode b_Re_takesNode 15 = .ok (.isub, 1) := by decide +kernel
theorem d_Re_takesNode_16 : decode b_Re_takesNode 16 = .ok (.aaload, 1) := by decide +kernel
theorem d_Re_takesNode_17 : decode b_Re_takesNode 17 = .ok (.astore_n 3, 1) := by decide +kernel
theorem d_Re_takesNode_18 : decode b_Re_takesNode 18 = .ok (.aload_n 0, 1) := by decide +kernel
theorem d_Re_takesNode_19 : decode b_Re_takesNode 19 = .ok (.getfield 31, 3) := by decide +kernel
theorem d_Re_takesNode_22 : decode b_Re_takesNode 22 = .ok (.invokevirtual 124, 3) := by decide +kernel
theorem d_Re_takesNode_25 : decode b_Re_takesNode 25 = .ok (.astore 4, 2) := by decide +kernel
theorem d_Re_takesNode_27 : decode b_Re_takesNode 27 = .ok (.aload 4, 2) := by decide +kernel
theorem d_Re_takesNode_29 : decode b_Re_takesNode 29 = .ok (.ifnonnull 5, 3) := by decide +kernel
theorem d_Re_takesNode_32 : decode b_Re_takesNode 32 = .ok (.iconst 0, 1) := by decide +kernel
theorem d_Re_takesNode_33 : decode b_Re_takesNode 33 = .ok (.ireturn, 1) := by decide +kernel
theorem d_Re_takesNode_34 : decode b_Re_takesNode 34 = .ok (.aload 4, 2) := by decide +kernel
theorem d_Re_takesNode_36 : decode b_Re_takesNode 36 = .ok (.aload_n 2, 1) := by decide +kernel
theorem d_Re_takesNode_37 : decode b_Re_takesNode 37 = .ok (.iconst 1, 1) := by decide +kernel
theorem d_Re_takesNode_38 : decode b_Re_takesNode 38 = .ok (.lconst 0, 1) := by decide +kernel
theorem d_Re_takesNode_39 : decode b_Re_takesNode 39 = .ok (.invokevirtual 128, 3) := by decide +kernel
theorem d_Re_takesNode_42 : decode b_Re_takesNode 42 = .ok (.aload_n 0, 1) := by decide +kernel
theorem d_Re_takesNode_43 : decode b_Re_takesNode 43 = .ok (.iload_n 1, 1) := by decide +kernel
theorem d_Re_takesNode_44 : decode b_Re_takesNode 44 = .ok (.aload 4, 2) := by decide +kernel
theorem d_Re_takesNode_46 : decode b_Re_takesNode 46 = .ok (.invokevirtual 101, 3) := by decide +kernel
theorem d_Re_takesNode_49 : decode b_Re_takesNode 49 = .ok (.ifCond .eq 13, 3) := by decide +kernel
theorem d_Re_takesNode_62 : decode b_Re_takesNode 62 = .ok (.iconst 0, 1) := by decide +kernel
theorem d_Re_takesNode_63 : decode b_Re_takesNode 63 = .ok (.ireturn, 1) := by decide +kernel
theorem d_Re_takesNode_52 : decode b_Re_takesNode 52 = .ok (.aload_n 0, 1) := by decide +kernel
theorem d_Re_takesNode_53 : decode b_Re_takesNode 53 = .ok (.iload_n 1, 1) := by decide +kernel
theorem d_Re_takesNode_54 : decode b_Re_takesNode 54 = .ok (.aload 4, 2) := by decide +kernel
theorem d_Re_takesNode_56 : decode b_Re_takesNode 56 = .ok (.invokevirtual 132, 3) := by decide +kernel
theorem d_Re_takesNode_59 : decode b_Re_takesNode 59 = .ok (.ifCond .ne 5, 3) := by decide +kernel
theorem d_Re_takesNode_64 : decode b_Re_takesNode 64 = .ok (.aload_n 3, 1) := by decide +kernel
theorem d_Re_takesNode_65 : decode b_Re_takesNode 65 = .ok (.getfield 114, 3) := by decide +kernel
theorem d_Re_takesNode_68 : decode b_Re_takesNode 68 = .ok (.aload_n 2, 1) := by decide +kernel
theorem d_Re_takesNode_69 : decode b_Re_takesNode 69 = .ok (.if_acmp .ne 14, 3) := by decide +kernel
theorem d_Re_takesNode_83 : decode b_Re_takesNode 83 = .ok (.aload 4, 2) := by decide +kernel
theorem d_Re_takesNode_85 : decode b_Re_takesNode 85 = .ok (.getfield 58, 3) := by decide +kernel
theorem d_Re_takesNode_88 : decode b_Re_takesNode 88 = .ok (.ifCond .eq 22, 3) := by decide +kernel
theorem d_Re_takesNode_110 : decode b_Re_takesNode 110 = .ok (.iconst 1, 1) := by decide +kernel
theorem d_Re_takesNode_111 : decode b_Re_takesNode 111 = .ok (.goto 4, 3) := by decide +kernel
theorem d_Re_takesNode_115 : decode b_Re_takesNode 115 = .ok (.ireturn, 1) := by decide +kernel
theorem d_Re_takesNode_91 : decode b_Re_takesNode 91 = .ok (.aload 4, 2) := by decide +kernel
theorem d_Re_takesNode_93 : decode b_Re_takesNode 93 = .ok (.invokevirtual 138, 3) := by decide +kernel
theorem d_Re_takesNode_96 : decode b_Re_takesNode 96 = .ok (.bipush 6, 2) := by decide +kernel
theorem d_Re_takesNode_98 : decode b_Re_takesNode 98 = .ok (.if_icmp .gt 16, 3) := by decide +kernel
theorem d_Re_takesNode_114 : decode b_Re_takesNode 114 = .ok (.iconst 0, 1) := by decide +kernel
theorem d_Re_takesNode_101 : decode b_Re_takesNode 101 = .ok (.aload_n 0, 1) := by decide +kernel
theorem d_Re_takesNode_102 : decode b_Re_takesNode 102 = .ok (.aload 4, 2) := by decide +kernel
theorem d_Re_takesNode_104 : decode b_Re_takesNode 104 = .ok (.invokevirtual 142, 3) := by decide +kernel
theorem d_Re_takesNode_107 : decode b_Re_takesNode 107 = .ok (.ifCond .eq 7, 3) := by decide +kernel
theorem d_Re_takesNode_72 : decode b_Re_takesNode 72 = .ok (.aload_n 3, 1) := by decide +kernel
theorem d_Re_takesNode_73 : decode b_Re_takesNode 73 = .ok (.aload 4, 2) := by decide +kernel
theorem d_Re_takesNode_75 : decode b_Re_takesNode 75 = .ok (.invokevirtual 135, 3) := by decide +kernel
theorem d_Re_takesNode_78 : decode b_Re_takesNode 78 = .ok (.ifCond .ne 5, 3) := by decide +kernel
theorem d_Re_takesNode_81 : decode b_Re_takesNode 81 = .ok (.iconst 0, 1) := by decide +kernel
theorem d_Re_takesNode_82 : decode b_Re_takesNode 82 = .ok (.ireturn, 1) := by decide +kernel
set_option maxHeartbeats 4000000 in
set_option maxRecDepth 100000 in
theorem t_takesNode (l : Launch) (D : va_G) (t : Nat → ClassId) (G : hG) (ak av : Nat → Nat) (h : hM) (τ : tM) (n : Nat) (r9 : Nat) (a9 : Int32) (e9 : Nat) (tb td md nd : Nat) (wp : Int32) (s8 o8 c8 : Nat) (sl8 : Nat → Option Nat) (hn : n ≤ 200) (hT : TI τ t n h) (T_r9 : τ r9 = (6, 0)) (T_e9 : τ e9 = (10, 1)) (F_r9 : h r9 = some (.inr (5, [.ref tb, .ref td, .ref md, .ref nd, .int wp]))) (hRD : RD t n h nd s8 o8 sl8 c8) (hlv : live sl8 c8 e9) : Met l y_Re_takesNode (.code y_Re_takesNode b_Re_takesNode 5 (some .boolean) :: lw_g) { frames := 6, cells := 0, slots := 0, locals := 136 } (hP (kE D t G ak av) D vwCl G h [.ref r9, .int a9, .ref e9]) (hQi D vwCl G (fun r h' => zb r ∧ TI τ t n h' ∧ kf τ [(10, 1), (7, 1)] [] h h' ∧ (∃ c', c8 ≤ c' ∧ RN t h' nd s8 o8 sl8 c' ∧ (r = 1 → RD t n h' nd s8 o8 sl8 c')))) 0 0 G.P := by
  refine Met.ofW (cc := b_Re_takesNode) (maxL := 5) (ret := (some .boolean)) (by decide) rfl ?_
  intro p e s m args below meth c s₁ Bd hml hv
  obtain ⟨ha, hE, hH⟩ := hv
  have hx := Bd.exec
  have hb := Bd.bytes
  have hr := Bd.returns
  have hts : ∀ w ∈ lw_g, w.before args s = true := fun w hw => atoms_spec (ws := (.code y_Re_takesNode b_Re_takesNode 5 (some .boolean) :: lw_g)) Bd.pre w (List.mem_cons_of_mem _ hw)
  have hown : s.vm.findClass R_Re = some m.cls := findClass_of_methodNamed Bd.named
  have hlocks := Bd.notSynchronized
  have hK := hE.1
  have hH0 := hH
  have hLo : hLc G.P [] := hLc_nil
  have hz : s.heap.size ≤ s.heap.size := Nat.le_refl _
  have hl := lv_entry [.ref r9, .int a9, .ref e9] (n := 5) (Nat.le_of_ble_eq_true rfl)
  rw [show entryFrame m args 5 = F0 m 0 ((lg_sl [.ref r9, .int a9, .ref e9] ++ List.replicate (5 - (lg_sl [.ref r9, .int a9, .ref e9]).length) Slot.unset).toArray) [] from (by rw [ha]; exact lg_entry_eq m [.ref r9, .int a9, .ref e9] 5)]
  generalize (lg_sl [.ref r9, .int a9, .ref e9] ++ List.replicate (5 - (lg_sl [.ref r9, .int a9, .ref e9]).length) Slot.unset).toArray = ls at hl ⊢
  have hl : lv_has ls 5 [(0, .ref r9), (1, .int a9), (2, .ref e9)] := hl
  have hkf : kf τ [(10, 1), (7, 1)] [] h h := kf_rf
  obtain ⟨Tr0, Tr1, Tr2, Tr3⟩ := TJ_rdr (v2 := some md) (v3 := some nd) hT T_r9 F_r9
  have T_md := Tr2 md rfl
  have T_nd := Tr3 nd rfl
  have hR0 := hRD
  obtain ⟨⟨F_nd, F_s8⟩, hc1, hc30, hrd, hrg⟩ := hRD
  obtain ⟨Tn0, Tn1, -⟩ := TJ_nds hT T_nd F_nd
  obtain ⟨Tn2, Tn3⟩ := TJ_slo hT Tn0 F_s8
  have hcI : (nI c8).toInt = c8 := nI_toInt (by omega)
  have hI0 := hT
  refine lv_aload_n hx hb d_Re_takesNode_0 rfl (lv_at hl 0 rfl) ?_
  refine hm_get (ci := 5) (v := .ref nd) (C := R_Re) (T := F_Re) (N := 5) hx hb hts ig_Re hown hK hH F_r9 rfl 3 (by decide) (hts _ mw_342) (fun _ h9 => h9) rfl d_Re_takesNode_1 ?_
  refine hm_get (ci := 2) (v := .ref s8) (C := R_Ns) (T := F_Ns) (N := 4) hx hb hts ig_Ns hown hK hH F_nd rfl 0 (by decide) (hts _ mw_344) (fun _ h9 => h9) rfl d_Re_takesNode_4 ?_
  refine lv_aload_n hx hb d_Re_takesNode_7 rfl (lv_at hl 0 rfl) ?_
  refine hm_get (ci := 5) (v := .ref nd) (C := R_Re) (T := F_Re) (N := 5) hx hb hts ig_Re hown hK hH F_r9 rfl 3 (by decide) (hts _ mw_342) (fun _ h9 => h9) rfl d_Re_takesNode_8 ?_
  refine hm_get (ci := 2) (v := .int (nI c8)) (C := R_Ns) (T := F_Ns) (N := 4) hx hb hts ig_Ns hown hK hH F_nd rfl 2 (by decide) (hts _ mw_343) (fun _ h9 => h9) rfl d_Re_takesNode_11 ?_
  refine lv_iconst (v := 1) hx hb d_Re_takesNode_14 (by decide) ?_
  refine lv_isub hx hb d_Re_takesNode_15 ?_
  have is_1 : ((nI c8) - 1).toInt = (nI c8).toInt - 1 := iDecS 1 rfl (by decide) (by omega)
  obtain ⟨a_2, e_3, T_4⟩ := Tn2 (((nI c8) - 1 : Int32).toNatClampNeg) (iCl (by omega) (by omega))
  refine hm_aald (v := .ref a_2) hx hb hK hH 4 F_s8 (C := R_No) rfl (iIn (by omega) (by omega)) (by rw [e_3]; rfl) d_Re_takesNode_16 ?_
  refine lv_astore_n (lv' := [(3, .ref a_2), (0, .ref r9), (1, .int a9), (2, .ref e9)]) hx hb d_Re_takesNode_17 rfl hl (by decide) rfl (fun ls hl => ?_)
  refine lv_aload_n hx hb d_Re_takesNode_18 rfl (lv_at hl 1 rfl) ?_
  refine hm_get (ci := 5) (v := .ref nd) (C := R_Re) (T := F_Re) (N := 5) hx hb hts ig_Re hown hK hH F_r9 rfl 3 (by decide) (hts _ mw_342) (fun _ h9 => h9) rfl d_Re_takesNode_19 ?_
  have O_N : Nds t h nd s8 o8 (nI c8) (nI c8) sl8 := ⟨F_nd, F_s8⟩
  refine hm_callr (va_runV (As := []) (b := nd) (rest := []) ⟨hx, hb, hml, hown, hts⟩ (t_append l D t G ak av h τ n 1 nd hn hT T_nd) ⟨cw9B 0 hts mw_163 mw_375 mw_132 rfl rfl (by decide +kernel) ⟨Nat.le_of_ble_eq_true rfl, Nat.le_of_ble_eq_true rfl⟩, hts _ mw_165, hts _ mw_166⟩ (hP_V (q := (R_Ns, F_Ns, 4)) kE_ok hE hK hH F_nd rfl) rfl rfl hl.1 rfl (lv_room (Nat.le_of_ble_eq_true rfl)) d_Re_takesNode_22 ⟨Nat.le_of_ble_eq_true rfl, Nat.le_of_ble_eq_true rfl⟩) hLo (fun r_5 h_6 H_7 locs hp_9 hH z_8 hLo => ?_)
  have hz : s.heap.size ≤ H_7.size := Nat.le_trans hz z_8
  have hT0 := hT
  obtain ⟨c_10, hT, kf_12, xp_11⟩ := hp_9
  have F_r9 : h_6 r9 = some (.inr (5, [.ref tb, .ref td, .ref md, .ref nd, .int wp])) := kf_at kf_12 T_r9 (by decide) (tnc (by decide) tn0) (nmc (tne T_r9 T_nd (by decide)) nm0) F_r9
  have F_s8 : h_6 s8 = some (.inl ((t 4), 30, .inr (.inr (.inr (.inr sl8))))) := kf_at kf_12 Tn0 (by decide) (tnc (by decide) tn0) (nmc (tne Tn0 T_nd (by decide)) nm0) F_s8
  have hkf : kf τ [(10, 1), (7, 1)] [] h h_6 := kf_tr hkf kf_12 (List.forall_mem_cons.mpr ⟨List.mem_cons_self, List.forall_mem_nil _⟩) (List.forall_mem_cons.mpr ⟨Or.inr (by rw [T_nd]; exact (List.mem_cons_of_mem _ List.mem_cons_self)), List.forall_mem_nil _⟩)
  rcases xp_11 _ _ _ _ _ O_N with ⟨h81, h82, -⟩ | ⟨a8, h81, hlt8, hsl8, hP8, ⟨x8, y8, h83, h84⟩, hfr8⟩
  · skip
    subst h81
    refine lv_astoreN (lv' := [(4, .null), (3, .ref a_2), (0, .ref r9), (1, .int a9), (2, .ref e9)]) hx hb d_Re_takesNode_25 hl (by decide) rfl (fun ls hl => ?_)
    refine lv_aloadN hx hb d_Re_takesNode_27 (lv_at hl 0 rfl) ?_
    refine lv_ifnonnullN hx hb d_Re_takesNode_29 ?_
    refine lv_iconst (v := 0) hx hb d_Re_takesNode_32 (by decide) ?_
    exact W.zret (v := 0) hx hb hr (by decide) (fun t9 ht hW => ⟨0, h_6, rfl, ⟨zb0, hT, hkf, ⟨c8, Nat.le_refl _, by rw [← h82]; exact RD_RN hR0, fun z => absurd z (by decide)⟩⟩, by rw [ht]; exact hH, by rw [ht]; exact hz⟩) hLo d_Re_takesNode_33
  · skip
    subst h81
    have T_a8 := c_10 a8 rfl
    refine lv_astore (lv' := [(4, .ref a8), (3, .ref a_2), (0, .ref r9), (1, .int a9), (2, .ref e9)]) hx hb d_Re_takesNode_25 hl (by decide) rfl (fun ls hl => ?_)
    refine lv_aload hx hb d_Re_takesNode_27 (lv_at hl 0 rfl) ?_
    refine lv_ifnonnull (tgt := 34) hx hb d_Re_takesNode_29 (by decide) ?_
    refine lv_aload hx hb d_Re_takesNode_34 (lv_at hl 0 rfl) ?_
    refine lv_aload_n hx hb d_Re_takesNode_36 rfl (lv_at hl 4 rfl) ?_
    refine lv_iconst (v := 1) hx hb d_Re_takesNode_37 (by decide) ?_
    refine lv_lconst (v := 0) hx hb d_Re_takesNode_38 (by decide) ?_
    obtain ⟨v_13, v_14, v_16, v_18, v_19, v_21, v_22, v_23, v_25, v_26, v_27, F_a8, c_15, c_17, c_20, c_24⟩ := TI_node hT T_a8
    refine hm_callv (va_runV (As := [.ref e9, .int 1, .long 0]) (b := a8) (rest := []) ⟨hx, hb, hml, hown, hts⟩ (t_become1 l D t G ak av h_6 τ n 1 a8 e9 (1 : Int32) 0 hn hT T_a8 T_e9 zb1) ⟨cw9B 3 hts mw_167 mw_376 mw_106 rfl rfl (by decide +kernel) ⟨Nat.le_of_ble_eq_true rfl, Nat.le_of_ble_eq_true rfl⟩, hts _ mw_169, hts _ mw_170⟩ (hP_V (q := (R_No, F_No, 11)) kE_ok hE hK hH F_a8 rfl) rfl rfl hl.1 rfl (lv_room (Nat.le_of_ble_eq_true rfl)) d_Re_takesNode_39 ⟨Nat.le_of_ble_eq_true rfl, Nat.le_of_ble_eq_true rfl⟩) hLo (fun h_28 H_29 locs hp_31 hH z_30 hLo => ?_)
    have hz : s.heap.size ≤ H_29.size := Nat.le_trans hz z_30
    have hT0 := hT
    obtain ⟨hT, kf_33, xp_32⟩ := hp_31
    have F_r9 : h_28 r9 = some (.inr (5, [.ref tb, .ref td, .ref md, .ref nd, .int wp])) := kf_at kf_33 T_r9 (by decide) tn0 (nmc (tne T_r9 T_a8 (by decide)) nm0) F_r9
    have F_s8 : h_28 s8 = some (.inl ((t 4), 30, .inr (.inr (.inr (.inr sl8))))) := kf_at kf_33 Tn0 (by decide) tn0 (nmc (tne Tn0 T_a8 (by decide)) nm0) F_s8
    have hkf : kf τ [(10, 1), (7, 1)] [] h h_28 := kf_tr hkf kf_33 (List.forall_mem_nil _) (List.forall_mem_cons.mpr ⟨Or.inr (by rw [T_a8]; exact List.mem_cons_self), List.forall_mem_nil _⟩)
    have hRb : RDb t n h_28 nd s8 o8 sl8 c8 a8 := RD_app hI0 T_nd hR0 hlt8 hsl8 hP8 h84 hfr8 hlv kf_33 xp_32
    refine lv_aload_n hx hb d_Re_takesNode_42 rfl (lv_at hl 2 rfl) ?_
    refine lv_iload_n hx hb d_Re_takesNode_43 rfl (lv_at hl 3 rfl) ?_
    refine lv_aload hx hb d_Re_takesNode_44 (lv_at hl 0 rfl) ?_
    refine hm_calli (va_runV (As := [.int a9, .ref a8]) (b := r9) (rest := []) ⟨hx, hb, hml, hown, hts⟩ (t_takesRec l D t G ak av h_28 τ n 1 r9 a9 a8 hn hT T_r9 T_a8 tb td md nd wp F_r9) ⟨cw9B 2 hts mw_367 mw_368 mw_332 rfl rfl (by decide +kernel) ⟨Nat.le_of_ble_eq_true rfl, Nat.le_of_ble_eq_true rfl⟩, hts _ mw_369, hts _ mw_370⟩ (hP_V (q := (R_Re, F_Re, 5)) kE_ok hE hK hH F_r9 rfl) rfl rfl hl.1 rfl (lv_room (Nat.le_of_ble_eq_true rfl)) d_Re_takesNode_46 ⟨Nat.le_of_ble_eq_true rfl, Nat.le_of_ble_eq_true rfl⟩) hLo (fun r_34 h_35 H_36 locs hp_38 hH z_37 hLo => ?_)
    have hz : s.heap.size ≤ H_36.size := Nat.le_trans hz z_37
    have hT0 := hT
    obtain ⟨c_39, hT, kf_41, xk_42, xp_40⟩ := hp_38
    have F_r9 : h_35 r9 = some (.inr (5, [.ref tb, .ref td, .ref md, .ref nd, .int wp])) := kf_at kf_41 T_r9 (by decide) tn0 (nmc (tne T_r9 T_a8 (by decide)) nm0) F_r9
    have F_s8 : h_35 s8 = some (.inl ((t 4), 30, .inr (.inr (.inr (.inr sl8))))) := kf_at kf_41 Tn0 (by decide) tn0 (nmc (tne Tn0 T_a8 (by decide)) nm0) F_s8
    have hRb : RDb t n h_35 nd s8 o8 sl8 c8 a8 := RDb_call hT0 T_nd T_a8 hRb kf_41 xk_42
    have hkf : kf τ [(10, 1), (7, 1)] [] h h_35 := kf_tr hkf kf_41 (List.forall_mem_nil _) (List.forall_mem_cons.mpr ⟨Or.inr (by rw [T_a8]; exact List.mem_cons_self), List.forall_mem_nil _⟩)
    rcases c_39 with rfl | rfl
    · skip
      refine lv_if_eq (tgt := 62) hx hb d_Re_takesNode_49 (by decide) (fun hc_43 => ?_) (fun hc_43 => absurd hc_43 (by decide))
      refine lv_iconst (v := 0) hx hb d_Re_takesNode_62 (by decide) ?_
      exact W.zret (v := 0) hx hb hr (by decide) (fun t9 ht hW => ⟨0, h_35, rfl, ⟨zb0, hT, hkf, ⟨c8 + 1, by omega, RDb_RN hRb, fun z => absurd z (by decide)⟩⟩, by rw [ht]; exact hH, by rw [ht]; exact hz⟩) hLo d_Re_takesNode_63
    · skip
      have hra8 := xp_40 rfl
      refine lv_if_eq (tgt := 62) hx hb d_Re_takesNode_49 (by decide) (fun hc_44 => absurd hc_44 (by decide)) (fun hc_44 => ?_)
      refine lv_aload_n hx hb d_Re_takesNode_52 rfl (lv_at hl 2 rfl) ?_
      refine lv_iload_n hx hb d_Re_takesNode_53 rfl (lv_at hl 3 rfl) ?_
      refine lv_aload hx hb d_Re_takesNode_54 (lv_at hl 0 rfl) ?_
      refine hm_calli (va_runV (As := [.int a9, .ref a8]) (b := r9) (rest := []) ⟨hx, hb, hml, hown, hts⟩ (t_takesId l D t G ak av h_35 τ n 1 r9 a9 a8 hn hT T_r9 T_a8 tb td md nd wp F_r9) ⟨cw9B 2 hts mw_377 mw_378 mw_332 rfl rfl (by decide +kernel) ⟨Nat.le_of_ble_eq_true rfl, Nat.le_of_ble_eq_true rfl⟩, hts _ mw_379, hts _ mw_380⟩ (hP_V (q := (R_Re, F_Re, 5)) kE_ok hE hK hH F_r9 rfl) rfl rfl hl.1 rfl (lv_room (Nat.le_of_ble_eq_true rfl)) d_Re_takesNode_56 ⟨Nat.le_of_ble_eq_true rfl, Nat.le_of_ble_eq_true rfl⟩) hLo (fun r_45 h_46 H_47 locs hp_49 hH z_48 hLo => ?_)
      have hz : s.heap.size ≤ H_47.size := Nat.le_trans hz z_48
      have hT0 := hT
      obtain ⟨c_50, hT, kf_52, xk_53, xp_51⟩ := hp_49
      have F_r9 : h_46 r9 = some (.inr (5, [.ref tb, .ref td, .ref md, .ref nd, .int wp])) := kf_at kf_52 T_r9 (by decide) tn0 (nmc (tne T_r9 T_a8 (by decide)) nm0) F_r9
      have F_s8 : h_46 s8 = some (.inl ((t 4), 30, .inr (.inr (.inr (.inr sl8))))) := kf_at kf_52 Tn0 (by decide) tn0 (nmc (tne Tn0 T_a8 (by decide)) nm0) F_s8
      have hRb : RDb t n h_46 nd s8 o8 sl8 c8 a8 := RDb_call hT0 T_nd T_a8 hRb kf_52 xk_53
      have hkf : kf τ [(10, 1), (7, 1)] [] h h_46 := kf_tr hkf kf_52 (List.forall_mem_nil _) (List.forall_mem_cons.mpr ⟨Or.inr (by rw [T_a8]; exact List.mem_cons_self), List.forall_mem_nil _⟩)
      rcases c_50 with rfl | rfl
      · skip
        refine lv_if_ne (tgt := 64) hx hb d_Re_takesNode_59 (by decide) (fun hc_54 => absurd hc_54 (by decide)) (fun hc_54 => ?_)
        refine lv_iconst (v := 0) hx hb d_Re_takesNode_62 (by decide) ?_
        exact W.zret (v := 0) hx hb hr (by decide) (fun t9 ht hW => ⟨0, h_46, rfl, ⟨zb0, hT, hkf, ⟨c8 + 1, by omega, RDb_RN hRb, fun z => absurd z (by decide)⟩⟩, by rw [ht]; exact hH, by rw [ht]; exact hz⟩) hLo d_Re_takesNode_63
      · skip
        have hra8 := xp_51 rfl hra8
        refine lv_if_ne (tgt := 64) hx hb d_Re_takesNode_59 (by decide) (fun hc_55 => ?_) (fun hc_55 => absurd hc_55 (by decide))
        refine lv_aload_n hx hb d_Re_takesNode_64 rfl (lv_at hl 1 rfl) ?_
        obtain ⟨v_56, v_57, v_59, v_61, v_62, v_64, v_65, v_66, v_68, v_69, v_70, F_a_2, c_58, c_60, c_63, c_67⟩ := TI_node hT T_4
        refine hm_get (ci := 1) (v := va_rf v_57) (C := R_No) (T := F_No) (N := 11) hx hb hts ig_No hown hK hH F_a_2 rfl 1 (by decide) (hts _ mw_381) (fun _ h9 => h9) rfl d_Re_takesNode_65 ?_
        refine lv_aload_n hx hb d_Re_takesNode_68 rfl (lv_at hl 4 rfl) ?_
        refine lv_acmp_ne (rx := v_57) (ry := some e9) (tgt := 83) hx hb d_Re_takesNode_69 (by decide) (fun hc_71 => ?_) (fun hc_71 => ?_)
        · skip
          refine lv_aload hx hb d_Re_takesNode_83 (lv_at hl 0 rfl) ?_
          obtain ⟨v_72, v_73, v_75, v_77, v_78, v_80, v_81, v_82, v_84, v_85, v_86, F_a8, c_74, c_76, c_79, c_83⟩ := TI_node hT T_a8
          refine hm_get (ci := 1) (v := .int v_75) (C := R_No) (T := F_No) (N := 11) hx hb hts ig_No hown hK hH F_a8 rfl 2 (by decide) (hts _ mw_345) (fun _ h9 => h9) rfl d_Re_takesNode_85 ?_
          refine lv_if_eq (tgt := 110) hx hb d_Re_takesNode_88 (by decide) (fun hc_87 => ?_) (fun hc_87 => ?_)
          · skip
            have ic_88 : v_75.toInt = 0 := congrArg Int32.toInt hc_87
            refine lv_iconst (v := 1) hx hb d_Re_takesNode_110 (by decide) ?_
            refine lv_goto (tgt := 115) hx hb d_Re_takesNode_111 (by decide) ?_
            exact W.zret (v := 1) hx hb hr (by decide) (fun t9 ht hW => ⟨1, h_46, rfl, ⟨zb1, hT, hkf, ⟨c8 + 1, by omega, RDb_RN hRb, fun _ => RDb_RD hRb hra8⟩⟩, by rw [ht]; exact hH, by rw [ht]; exact hz⟩) hLo d_Re_takesNode_115
          · skip
            refine lv_aload hx hb d_Re_takesNode_91 (lv_at hl 0 rfl) ?_
            refine hm_callPi (va_runV (As := []) (b := a8) (rest := []) ⟨hx, hb, hml, hown, hts⟩ (t_depth l D t G ak av h_46 τ n 1 a8 hn hT T_a8 (RDb_ch hRb)) ⟨cw9B 0 hts mw_143 mw_382 mw_106 rfl rfl (by decide +kernel) ⟨Nat.le_of_ble_eq_true rfl, Nat.le_of_ble_eq_true rfl⟩, hts _ mw_145, hts _ mw_146⟩ (hP_V (q := (R_No, F_No, 11)) kE_ok hE hK hH F_a8 rfl) rfl rfl hl.1 rfl (lv_room (Nat.le_of_ble_eq_true rfl)) d_Re_takesNode_93 ⟨Nat.le_of_ble_eq_true rfl, Nat.le_of_ble_eq_true rfl⟩) (fun r_89 h_90 H_91 hp_93  hH z_92 => ?_)
            have hz : s.heap.size ≤ H_91.size := Nat.le_trans hz z_92
            obtain rfl := hp_93
            refine lv_bipush (v := 6) hx hb d_Re_takesNode_96 (by decide) ?_
            refine lv_icmp_gt (tgt := 114) hx hb d_Re_takesNode_98 (by decide) (fun hc_95 => ?_) (fun hc_95 => ?_)
            · skip
              have ic_96 : 6 < r_89.toInt := iLt hc_95
              have iu_97 : r_89.toInt < 2147483648 := iUp _
              refine lv_iconst (v := 0) hx hb d_Re_takesNode_114 (by decide) ?_
              exact W.zret (v := 0) hx hb hr (by decide) (fun t9 ht hW => ⟨0, h_46, rfl, ⟨zb0, hT, hkf, ⟨c8 + 1, by omega, RDb_RN hRb, fun z => absurd z (by decide)⟩⟩, by rw [ht]; exact hH, by rw [ht]; exact hz⟩) hLo d_Re_takesNode_115
            · skip
              have ic_98 : r_89.toInt ≤ 6 := iNl hc_95
              refine lv_aload_n hx hb d_Re_takesNode_101 rfl (lv_at hl 2 rfl) ?_
              refine lv_aload hx hb d_Re_takesNode_102 (lv_at hl 0 rfl) ?_
              refine hm_callPi (va_runV (As := [.ref a8]) (b := r9) (rest := []) ⟨hx, hb, hml, hown, hts⟩ (t_toldOnce l D t G ak av h_46 τ n 1 r9 a8 hn hT T_r9 T_a8 tb td md nd wp F_r9) ⟨cw9B 1 hts mw_383 mw_384 mw_332 rfl rfl (by decide +kernel) ⟨Nat.le_of_ble_eq_true rfl, Nat.le_of_ble_eq_true rfl⟩, hts _ mw_385, hts _ mw_386⟩ (hP_V (q := (R_Re, F_Re, 5)) kE_ok hE hK hH F_r9 rfl) rfl rfl hl.1 rfl (lv_room (Nat.le_of_ble_eq_true rfl)) d_Re_takesNode_104 ⟨Nat.le_of_ble_eq_true rfl, Nat.le_of_ble_eq_true rfl⟩) (fun r_99 h_100 H_101 hp_103  hH z_102 => ?_)
              have hz : s.heap.size ≤ H_101.size := Nat.le_trans hz z_102
              obtain ⟨c_104, rfl⟩ := hp_103
              refine lv_if_eq (tgt := 114) hx hb d_Re_takesNode_107 (by decide) (fun hc_106 => ?_) (fun hc_106 => ?_)
              · skip
                have ic_107 : r_99.toInt = 0 := congrArg Int32.toInt hc_106
                refine lv_iconst (v := 0) hx hb d_Re_takesNode_114 (by decide) ?_
                exact W.zret (v := 0) hx hb hr (by decide) (fun t9 ht hW => ⟨0, h_46, rfl, ⟨zb0, hT, hkf, ⟨c8 + 1, by omega, RDb_RN hRb, fun z => absurd z (by decide)⟩⟩, by rw [ht]; exact hH, by rw [ht]; exact hz⟩) hLo d_Re_takesNode_115
              · skip
                refine lv_iconst (v := 1) hx hb d_Re_takesNode_110 (by decide) ?_
                refine lv_goto (tgt := 115) hx hb d_Re_takesNode_111 (by decide) ?_
                exact W.zret (v := 1) hx hb hr (by decide) (fun t9 ht hW => ⟨1, h_46, rfl, ⟨zb1, hT, hkf, ⟨c8 + 1, by omega, RDb_RN hRb, fun _ => RDb_RD hRb hra8⟩⟩, by rw [ht]; exact hH, by rw [ht]; exact hz⟩) hLo d_Re_takesNode_115
        · skip
          refine lv_aload_n hx hb d_Re_takesNode_72 rfl (lv_at hl 1 rfl) ?_
          refine lv_aload hx hb d_Re_takesNode_73 (lv_at hl 0 rfl) ?_
          refine hm_callPi (va_runV (As := [.ref a8]) (b := a_2) (rest := []) ⟨hx, hb, hml, hown, hts⟩ (t_before l D t G ak av h_46 τ n 1 1 a_2 a8 hn hT T_4 T_a8) ⟨cw9B 1 hts mw_153 mw_387 mw_106 rfl rfl (by decide +kernel) ⟨Nat.le_of_ble_eq_true rfl, Nat.le_of_ble_eq_true rfl⟩, hts _ mw_155, hts _ mw_156⟩ (hP_V (q := (R_No, F_No, 11)) kE_ok hE hK hH F_a_2 rfl) rfl rfl hl.1 rfl (lv_room (Nat.le_of_ble_eq_true rfl)) d_Re_takesNode_75 ⟨Nat.le_of_ble_eq_true rfl, Nat.le_of_ble_eq_true rfl⟩) (fun r_108 h_109 H_110 hp_112  hH z_111 => ?_)
          have hz : s.heap.size ≤ H_110.size := Nat.le_trans hz z_111
          obtain ⟨c_113, rfl⟩ := hp_112
          refine lv_if_ne (tgt := 83) hx hb d_Re_takesNode_78 (by decide) (fun hc_115 => ?_) (fun hc_115 => ?_)
          · skip
            refine lv_aload hx hb d_Re_takesNode_83 (lv_at hl 0 rfl) ?_
            obtain ⟨v_116, v_117, v_119, v_121, v_122, v_124, v_125, v_126, v_128, v_129, v_130, F_a8, c_118, c_120, c_123, c_127⟩ := TI_node hT T_a8
            refine hm_get (ci := 1) (v := .int v_119) (C := R_No) (T := F_No) (N := 11) hx hb hts ig_No hown hK hH F_a8 rfl 2 (by decide) (hts _ mw_345) (fun _ h9 => h9) rfl d_Re_takesNode_85 ?_
            refine lv_if_eq (tgt := 110) hx hb d_Re_takesNode_88 (by decide) (fun hc_131 => ?_) (fun hc_131 => ?_)
            · skip
              have ic_132 : v_119.toInt = 0 := congrArg Int32.toInt hc_131
              refine lv_iconst (v := 1) hx hb d_Re_takesNode_110 (by decide) ?_
              refine lv_goto (tgt := 115) hx hb d_Re_takesNode_111 (by decide) ?_
              exact W.zret (v := 1) hx hb hr (by decide) (fun t9 ht hW => ⟨1, h_46, rfl, ⟨zb1, hT, hkf, ⟨c8 + 1, by omega, RDb_RN hRb, fun _ => RDb_RD hRb hra8⟩⟩, by rw [ht]; exact hH, by rw [ht]; exact hz⟩) hLo d_Re_takesNode_115
            · skip
              refine lv_aload hx hb d_Re_takesNode_91 (lv_at hl 0 rfl) ?_
              refine hm_callPi (va_runV (As := []) (b := a8) (rest := []) ⟨hx, hb, hml, hown, hts⟩ (t_depth l D t G ak av h_46 τ n 1 a8 hn hT T_a8 (RDb_ch hRb)) ⟨cw9B 0 hts mw_143 mw_382 mw_106 rfl rfl (by decide +kernel) ⟨Nat.le_of_ble_eq_true rfl, Nat.le_of_ble_eq_true rfl⟩, hts _ mw_145, hts _ mw_146⟩ (hP_V (q := (R_No, F_No, 11)) kE_ok hE hK hH F_a8 rfl) rfl rfl hl.1 rfl (lv_room (Nat.le_of_ble_eq_true rfl)) d_Re_takesNode_93 ⟨Nat.le_of_ble_eq_true rfl, Nat.le_of_ble_eq_true rfl⟩) (fun r_133 h_134 H_135 hp_137  hH z_136 => ?_)
              have hz : s.heap.size ≤ H_135.size := Nat.le_trans hz z_136
              obtain rfl := hp_137
              refine lv_bipush (v := 6) hx hb d_Re_takesNode_96 (by decide) ?_
              refine lv_icmp_gt (tgt := 114) hx hb d_Re_takesNode_98 (by decide) (fun hc_139 => ?_) (fun hc_139 => ?_)
              · skip
                have ic_140 : 6 < r_133.toInt := iLt hc_139
                have iu_141 : r_133.toInt < 2147483648 := iUp _
                refine lv_iconst (v := 0) hx hb d_Re_takesNode_114 (by decide) ?_
                exact W.zret (v := 0) hx hb hr (by decide) (fun t9 ht hW => ⟨0, h_46, rfl, ⟨zb0, hT, hkf, ⟨c8 + 1, by omega, RDb_RN hRb, fun z => absurd z (by decide)⟩⟩, by rw [ht]; exact hH, by rw [ht]; exact hz⟩) hLo d_Re_takesNode_115
              · skip
                have ic_142 : r_133.toInt ≤ 6 := iNl hc_139
                refine lv_aload_n hx hb d_Re_takesNode_101 rfl (lv_at hl 2 rfl) ?_
                refine lv_aload hx hb d_Re_takesNode_102 (lv_at hl 0 rfl) ?_
                refine hm_callPi (va_runV (As := [.ref a8]) (b := r9) (rest := []) ⟨hx, hb, hml, hown, hts⟩ (t_toldOnce l D t G ak av h_46 τ n 1 r9 a8 hn hT T_r9 T_a8 tb td md nd wp F_r9) ⟨cw9B 1 hts mw_383 mw_384 mw_332 rfl rfl (by decide +kernel) ⟨Nat.le_of_ble_eq_true rfl, Nat.le_of_ble_eq_true rfl⟩, hts _ mw_385, hts _ mw_386⟩ (hP_V (q := (R_Re, F_Re, 5)) kE_ok hE hK hH F_r9 rfl) rfl rfl hl.1 rfl (lv_room (Nat.le_of_ble_eq_true rfl)) d_Re_takesNode_104 ⟨Nat.le_of_ble_eq_true rfl, Nat.le_of_ble_eq_true rfl⟩) (fun r_143 h_144 H_145 hp_147  hH z_146 => ?_)
                have hz : s.heap.size ≤ H_145.size := Nat.le_trans hz z_146
                obtain ⟨c_148, rfl⟩ := hp_147
                refine lv_if_eq (tgt := 114) hx hb d_Re_takesNode_107 (by decide) (fun hc_150 => ?_) (fun hc_150 => ?_)
                · skip
                  have ic_151 : r_143.toInt = 0 := congrArg Int32.toInt hc_150
                  refine lv_iconst (v := 0) hx hb d_Re_takesNode_114 (by decide) ?_
                  exact W.zret (v := 0) hx hb hr (by decide) (fun t9 ht hW => ⟨0, h_46, rfl, ⟨zb0, hT, hkf, ⟨c8 + 1, by omega, RDb_RN hRb, fun z => absurd z (by decide)⟩⟩, by rw [ht]; exact hH, by rw [ht]; exact hz⟩) hLo d_Re_takesNode_115
                · skip
                  refine lv_iconst (v := 1) hx hb d_Re_takesNode_110 (by decide) ?_
                  refine lv_goto (tgt := 115) hx hb d_Re_takesNode_111 (by decide) ?_
                  exact W.zret (v := 1) hx hb hr (by decide) (fun t9 ht hW => ⟨1, h_46, rfl, ⟨zb1, hT, hkf, ⟨c8 + 1, by omega, RDb_RN hRb, fun _ => RDb_RD hRb hra8⟩⟩, by rw [ht]; exact hH, by rw [ht]; exact hz⟩) hLo d_Re_takesNode_115
          · skip
            have ic_152 : r_108.toInt = 0 := congrArg Int32.toInt hc_115
            refine lv_iconst (v := 0) hx hb d_Re_takesNode_81 (by decide) ?_
            exact W.zret (v := 0) hx hb hr (by decide) (fun t9 ht hW => ⟨0, h_46, rfl, ⟨zb0, hT, hkf, ⟨c8 + 1, by omega, RDb_RN hRb, fun z => absurd z (by decide)⟩⟩, by rw [ht]; exact hH, by rw [ht]; exact hz⟩) hLo d_Re_takesNode_82
