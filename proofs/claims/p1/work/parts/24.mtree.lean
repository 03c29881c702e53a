set_option maxRecDepth 100000 in
theorem mw_486 : Cond.fieldLink R_Mo 254 "WriteOnceDiscModel" "opened" "I" ∈ lw_g := lw_gin (List.mem_append_right _ (List.mem_of_getElem? (i := 951) rfl)) (by decide +kernel)
theorem d_Mo_node_0 : decode b_Mo_node 0 = .ok (.aload_n 0, 1) := by decide +kernel
theorem d_Mo_node_1 : decode b_Mo_node 1 = .ok (.iload_n 1, 1) := by decide +kernel
theorem d_Mo_node_2 : decode b_Mo_node 2 = .ok (.iconst 0, 1) := by decide +kernel
theorem d_Mo_node_3 : decode b_Mo_node 3 = .ok (.aload_n 0, 1) := by decide +kernel
theorem d_Mo_node_4 : decode b_Mo_node 4 = .ok (.getfield 254, 3) := by decide +kernel
theorem d_Mo_node_7 : decode b_Mo_node 7 = .ok (.iconst 1, 1) := by decide +kernel
theorem d_Mo_node_8 : decode b_Mo_node 8 = .ok (.isub, 1) := by decide +kernel
theorem d_Mo_node_9 : decode b_Mo_node 9 = .ok (.invokestatic 118, 3) := by decide +kernel
theorem d_Mo_node_12 : decode b_Mo_node 12 = .ok (.ifCond .eq 16, 3) := by decide +kernel
theorem d_Mo_node_28 : decode b_Mo_node 28 = .ok (.iconst 1, 1) := by decide +kernel
theorem d_Mo_node_29 : decode b_Mo_node 29 = .ok (.putfield 109, 3) := by decide +kernel
theorem d_Mo_node_32 : decode b_Mo_node 32 = .ok (.aload_n 0, 1) := by decide +kernel
theorem d_Mo_node_33 : decode b_Mo_node 33 = .ok (.getfield 109, 3) := by decide +kernel
theorem d_Mo_node_36 : decode b_Mo_node 36 = .ok (.iconst 1, 1) := by decide +kernel
theorem d_Mo_node_37 : decode b_Mo_node 37 = .ok (.if_icmp .ne 5, 3) := by decide +kernel
theorem d_Mo_node_40 : decode b_Mo_node 40 = .ok (.iconst 0, 1) := by decide +kernel
theorem d_Mo_node_41 : decode b_Mo_node 41 = .ok (.ireturn, 1) := by decide +kernel
theorem d_Mo_name_0 : decode b_Mo_name 0 = .ok (.aload_n 0, 1) := by decide +kernel
theorem d_Mo_name_1 : decode b_Mo_name 1 = .ok (.iload_n 1, 1) := by decide +kernel
theorem d_Mo_name_2 : decode b_Mo_name 2 = .ok (.iconst 0, 1) := by decide +kernel
theorem d_Mo_name_3 : decode b_Mo_name 3 = .ok (.aload_n 0, 1) := by decide +kernel
theorem d_Mo_name_4 : decode b_Mo_name 4 = .ok (.getfield 254, 3) := by decide +kernel
theorem d_Mo_name_7 : decode b_Mo_name 7 = .ok (.iconst 1, 1) := by decide +kernel
theorem d_Mo_name_8 : decode b_Mo_name 8 = .ok (.isub, 1) := by decide +kernel
theorem d_Mo_name_9 : decode b_Mo_name 9 = .ok (.invokestatic 118, 3) := by decide +kernel
theorem d_Mo_name_12 : decode b_Mo_name 12 = .ok (.ifCond .eq 7, 3) := by decide +kernel
theorem d_Mo_name_19 : decode b_Mo_name 19 = .ok (.iconst 1, 1) := by decide +kernel
theorem d_Mo_name_20 : decode b_Mo_name 20 = .ok (.putfield 109, 3) := by decide +kernel
theorem d_Mo_name_23 : decode b_Mo_name 23 = .ok (.aload_n 0, 1) := by decide +kernel
theorem d_Mo_name_24 : decode b_Mo_name 24 = .ok (.getfield 109, 3) := by decide +kernel
theorem d_Mo_name_27 : decode b_Mo_name 27 = .ok (.iconst 1, 1) := by decide +kernel
theorem d_Mo_name_28 : decode b_Mo_name 28 = .ok (.if_icmp .ne 7, 3) := by decide +kernel
theorem d_Mo_name_31 : decode b_Mo_name 31 = .ok (.lconst 0, 1) := by decide +kernel
theorem d_Mo_name_32 : decode b_Mo_name 32 = .ok (.goto 9, 3) := by decide +kernel
theorem d_Mo_name_41 : decode b_Mo_name 41 = .ok (.lreturn, 1) := by decide +kernel
theorem d_Mo_read_0 : decode b_Mo_read 0 = .ok (.aload_n 0, 1) := by decide +kernel
theorem d_Mo_read_1 : decode b_Mo_read 1 = .ok (.iload_n 1, 1) := by decide +kernel
theorem d_Mo_read_2 : decode b_Mo_read 2 = .ok (.iconst 0, 1) := by decide +kernel
theorem d_Mo_read_3 : decode b_Mo_read 3 = .ok (.aload_n 0, 1) := by decide +kernel
theorem d_Mo_read_4 : decode b_Mo_read 4 = .ok (.getfield 254, 3) := by decide +kernel
theorem d_Mo_read_7 : decode b_Mo_read 7 = .ok (.iconst 1, 1) := by decide +kernel
theorem d_Mo_read_8 : decode b_Mo_read 8 = .ok (.isub, 1) := by decide +kernel
theorem d_Mo_read_9 : decode b_Mo_read 9 = .ok (.invokestatic 118, 3) := by decide +kernel
theorem d_Mo_read_12 : decode b_Mo_read 12 = .ok (.ifCond .eq 32, 3) := by decide +kernel
theorem d_Mo_read_44 : decode b_Mo_read 44 = .ok (.iconst 1, 1) := by decide +kernel
theorem d_Mo_read_45 : decode b_Mo_read 45 = .ok (.putfield 109, 3) := by decide +kernel
theorem d_Mo_read_48 : decode b_Mo_read 48 = .ok (.aload_n 0, 1) := by decide +kernel
theorem d_Mo_read_49 : decode b_Mo_read 49 = .ok (.getfield 109, 3) := by decide +kernel
theorem d_Mo_read_52 : decode b_Mo_read 52 = .ok (.iconst 1, 1) := by decide +kernel
theorem d_Mo_read_53 : decode b_Mo_read 53 = .ok (.if_icmp .ne 7, 3) := by decide +kernel
theorem d_Mo_read_56 : decode b_Mo_read 56 = .ok (.iconst 0, 1) := by decide +kernel
theorem d_Mo_read_57 : decode b_Mo_read 57 = .ok (.goto 19, 3) := by decide +kernel
theorem d_Mo_read_76 : decode b_Mo_read 76 = .ok (.ireturn, 1) := by decide +kernel
theorem d_Mo_tree_0 : decode b_Mo_tree 0 = .ok (.aload_n 0, 1) := by decide +kernel
theorem d_Mo_tree_1 : decode b_Mo_tree 1 = .ok (.aload_n 0, 1) := by decide +kernel
theorem d_Mo_tree_2 : decode b_Mo_tree 2 = .ok (.iload_n 1, 1) := by decide +kernel
theorem d_Mo_tree_3 : decode b_Mo_tree 3 = .ok (.invokevirtual 139, 3) := by decide +kernel
theorem d_Mo_tree_6 : decode b_Mo_tree 6 = .ok (.ifCond .eq 16, 3) := by decide +kernel
theorem d_Mo_tree_9 : decode b_Mo_tree 9 = .ok (.iload_n 2, 1) := by decide +kernel
theorem d_Mo_tree_10 : decode b_Mo_tree 10 = .ok (.iconst 0, 1) := by decide +kernel
theorem d_Mo_tree_11 : decode b_Mo_tree 11 = .ok (.iconst 4, 1) := by decide +kernel
theorem d_Mo_tree_12 : decode b_Mo_tree 12 = .ok (.invokestatic 118, 3) := by decide +kernel
theorem d_Mo_tree_15 : decode b_Mo_tree 15 = .ok (.ifCond .eq 7, 3) := by decide +kernel
theorem d_Mo_tree_22 : decode b_Mo_tree 22 = .ok (.iconst 1, 1) := by decide +kernel
theorem d_Mo_tree_23 : decode b_Mo_tree 23 = .ok (.putfield 109, 3) := by decide +kernel
theorem d_Mo_tree_26 : decode b_Mo_tree 26 = .ok (.aload_n 0, 1) := by decide +kernel
theorem d_Mo_tree_27 : decode b_Mo_tree 27 = .ok (.getfield 109, 3) := by decide +kernel
theorem d_Mo_tree_30 : decode b_Mo_tree 30 = .ok (.iconst 1, 1) := by decide +kernel
theorem d_Mo_tree_31 : decode b_Mo_tree 31 = .ok (.if_icmp .ne 5, 3) := by decide +kernel
theorem d_Mo_tree_34 : decode b_Mo_tree 34 = .ok (.iconst 0, 1) := by decide +kernel
theorem d_Mo_tree_35 : decode b_Mo_tree 35 = .ok (.ireturn, 1) := by decide +kernel
theorem d_Mo_tree_18 : decode b_Mo_tree 18 = .ok (.iconst 0, 1) := by decide +kernel
theorem d_Mo_tree_19 : decode b_Mo_tree 19 = .ok (.goto 4, 3) := by decide +kernel
theorem d_Mo_tree_36 : decode b_Mo_tree 36 = .ok (.iload_n 2, 1) := by decide +kernel
theorem d_Mo_tree_37 : decode b_Mo_tree 37 = .ok (.ifCond .ne 12, 3) := by decide +kernel
theorem d_Mo_tree_49 : decode b_Mo_tree 49 = .ok (.iload_n 2, 1) := by decide +kernel
theorem d_Mo_tree_50 : decode b_Mo_tree 50 = .ok (.iconst 1, 1) := by decide +kernel
theorem d_Mo_tree_51 : decode b_Mo_tree 51 = .ok (.if_icmp .ne 20, 3) := by decide +kernel
theorem d_Mo_tree_71 : decode b_Mo_tree 71 = .ok (.iload_n 2, 1) := by decide +kernel
theorem d_Mo_tree_72 : decode b_Mo_tree 72 = .ok (.iconst 2, 1) := by decide +kernel
theorem d_Mo_tree_73 : decode b_Mo_tree 73 = .ok (.if_icmp .ne 12, 3) := by decide +kernel
theorem d_Mo_tree_85 : decode b_Mo_tree 85 = .ok (.iload_n 2, 1) := by decide +kernel
theorem d_Mo_tree_86 : decode b_Mo_tree 86 = .ok (.iconst 3, 1) := by decide +kernel
theorem d_Mo_tree_87 : decode b_Mo_tree 87 = .ok (.if_icmp .ne 12, 3) := by decide +kernel
theorem d_Mo_tree_99 : decode b_Mo_tree 99 = .ok (.aload_n 0, 1) := by decide +kernel
theorem d_Mo_tree_100 : decode b_Mo_tree 100 = .ok (.getfield 47, 3) := by decide +kernel
theorem d_Mo_tree_103 : decode b_Mo_tree 103 = .ok (.iload_n 1, 1) := by decide +kernel
theorem d_Mo_tree_104 : decode b_Mo_tree 104 = .ok (.iaload, 1) := by decide +kernel
theorem d_Mo_tree_105 : decode b_Mo_tree 105 = .ok (.ireturn, 1) := by decide +kernel
theorem d_Mo_tree_90 : decode b_Mo_tree 90 = .ok (.aload_n 0, 1) := by decide +kernel
theorem d_Mo_tree_91 : decode b_Mo_tree 91 = .ok (.getfield 41, 3) := by decide +kernel
theorem d_Mo_tree_94 : decode b_Mo_tree 94 = .ok (.iload_n 1, 1) := by decide +kernel
theorem d_Mo_tree_95 : decode b_Mo_tree 95 = .ok (.iaload, 1) := by decide +kernel
theorem d_Mo_tree_96 : decode b_Mo_tree 96 = .ok (.goto 9, 3) := by decide +kernel
theorem d_Mo_tree_76 : decode b_Mo_tree 76 = .ok (.aload_n 0, 1) := by decide +kernel
theorem d_Mo_tree_77 : decode b_Mo_tree 77 = .ok (.getfield 38, 3) := by decide +kernel
theorem d_Mo_tree_80 : decode b_Mo_tree 80 = .ok (.iload_n 1, 1) := by decide +kernel
theorem d_Mo_tree_81 : decode b_Mo_tree 81 = .ok (.iaload, 1) := by decide +kernel
theorem d_Mo_tree_82 : decode b_Mo_tree 82 = .ok (.goto 23, 3) := by decide +kernel
theorem d_Mo_tree_54 : decode b_Mo_tree 54 = .ok (.aload_n 0, 1) := by decide +kernel
theorem d_Mo_tree_55 : decode b_Mo_tree 55 = .ok (.getfield 27, 3) := by decide +kernel
theorem d_Mo_tree_58 : decode b_Mo_tree 58 = .ok (.iload_n 1, 1) := by decide +kernel
theorem d_Mo_tree_59 : decode b_Mo_tree 59 = .ok (.baload, 1) := by decide +kernel
theorem d_Mo_tree_60 : decode b_Mo_tree 60 = .ok (.ifCond .eq 7, 3) := by decide +kernel
theorem d_Mo_tree_63 : decode b_Mo_tree 63 = .ok (.iconst 0, 1) := by decide +kernel
theorem d_Mo_tree_64 : decode b_Mo_tree 64 = .ok (.goto 41, 3) := by decide +kernel
theorem d_Mo_tree_40 : decode b_Mo_tree 40 = .ok (.aload_n 0, 1) := by decide +kernel
theorem d_Mo_tree_41 : decode b_Mo_tree 41 = .ok (.getfield 30, 3) := by decide +kernel
theorem d_Mo_tree_44 : decode b_Mo_tree 44 = .ok (.iload_n 1, 1) := by decide +kernel
theorem d_Mo_tree_45 : decode b_Mo_tree 45 = .ok (.iaload, 1) := by decide +kernel
theorem d_Mo_tree_46 : decode b_Mo_tree 46 = .ok (.goto 59, 3) := by decide +kernel
set_option maxHeartbeats 4000000 in
set_option maxRecDepth 100000 in
theorem c_m_node (l : Launch) (D : va_G) (t : Nat → ClassId) (G : hG) (ak av : Nat → Nat) (h : hM) (mo n : Nat) (k9 w9 : Int32) (hM : FrM t h mo n) : Met l y_Mo_node (.code y_Mo_node b_Mo_node 3 (some .int) :: lw_g) { frames := 1, cells := 0, slots := 0, locals := 22 } (hP (kE D t G ak av) D vwCl G h [.ref mo, .int k9, .int w9]) (hQi D vwCl G (fun r h' => r = 0 ∧ ThM h' mo n 1)) 0 0 G.P := by
  refine Met.ofW (cc := b_Mo_node) (maxL := 3) (ret := (some .int)) (by decide) rfl ?_
  intro p e s m args below meth c s₁ Bd hml hv
  obtain ⟨ha, hE, hH⟩ := hv
  have hx := Bd.exec
  have hb := Bd.bytes
  have hr := Bd.returns
  have hts : ∀ w ∈ lw_g, w.before args s = true := fun w hw => atoms_spec (ws := (.code y_Mo_node b_Mo_node 3 (some .int) :: lw_g)) Bd.pre w (List.mem_cons_of_mem _ hw)
  have hown : s.vm.findClass R_Mo = some m.cls := findClass_of_methodNamed Bd.named
  have hlocks := Bd.notSynchronized
  have hK := hE.1
  have hH0 := hH
  have hLo : hLc G.P [] := hLc_nil
  have hz : s.heap.size ≤ s.heap.size := Nat.le_refl _
  have hkp : kp [] h h := kp_rf
  have hl := lv_entry [.ref mo, .int k9, .int w9] (n := 3) (Nat.le_of_ble_eq_true rfl)
  rw [show entryFrame m args 3 = F0 m 0 ((lg_sl [.ref mo, .int k9, .int w9] ++ List.replicate (3 - (lg_sl [.ref mo, .int k9, .int w9]).length) Slot.unset).toArray) [] from (by rw [ha]; exact lg_entry_eq m [.ref mo, .int k9, .int w9] 3)]
  generalize (lg_sl [.ref mo, .int k9, .int w9] ++ List.replicate (3 - (lg_sl [.ref mo, .int k9, .int w9]).length) Slot.unset).toArray = ls at hl ⊢
  have hl : lv_has ls 3 [(0, .ref mo), (1, .int k9), (2, .int w9)] := hl
  refine FrM_elim hM ?_
  intro aBy aSt aDe aPa aIt aId aPr aNa aSi aSe aIw aEx aOl aPl aTa aAt aLo aS1 aS2 aS3 aS4 aS5 aS6 aO1 aO2 aO3 aO4 aO5 gBy gSt gDe gPa gIt gId gPr gSi gSe gIw gEx gOl gPl gTa gAt gLo gNa f_m f_aBy f_aSt f_aDe f_aPa f_aIt f_aId f_aPr f_aNa f_aSi f_aSe f_aIw f_aEx f_aOl f_aPl f_aTa f_aAt f_aLo zBy zSt zDe zIt zId zPr zSi zSe zEx ne_aIt_aId ne_aIt_aPr ne_aIt_aSi ne_aIt_aSe ne_aIt_aEx ne_aId_aPr ne_aId_aSi ne_aId_aSe ne_aId_aEx ne_aPr_aSi ne_aPr_aSe ne_aPr_aEx ne_aSi_aSe ne_aSi_aEx ne_aSe_aEx ne_aId_aAt ne_aId_aLo ne_aAt_aLo ne_aId_aOl ne_aIt_aIw ne_aId_aIw ne_aPr_aIw ne_aSi_aIw ne_aSe_aIw ne_aIw_aEx ne_aEx_aOl ne_aOl_aAt ne_aOl_aLo hn40 hn
  refine lv_aload_n hx hb d_Mo_node_0 rfl (lv_at hl 0 rfl) ?_
  refine lv_iload_n hx hb d_Mo_node_1 rfl (lv_at hl 1 rfl) ?_
  refine lv_iconst (v := 0) hx hb d_Mo_node_2 (by decide) ?_
  refine lv_aload_n hx hb d_Mo_node_3 rfl (lv_at hl 0 rfl) ?_
  refine hm_get (ci := 9) (v := .int 0) (C := R_Mo) (T := F_Mo) (N := 41) hx hb hts ig_Mo hown hK hH f_m rfl 35 (by decide) (hts _ mw_486) (fun _ h9 => h9) rfl d_Mo_node_4 ?_
  refine lv_iconst (v := 1) hx hb d_Mo_node_7 (by decide) ?_
  refine lv_isub hx hb d_Mo_node_8 ?_
  refine hm_calli (va_runS (As := [.int k9, .int 0, .int (0 - 1)]) (rest := [.ref mo]) ⟨hx, hb, hml, hown, hts⟩ (c_m_in l D t G ak av h k9 0 (0 - 1)) ⟨cw9B 3 hts mw_437 mw_438 mw_428 rfl rfl (by decide +kernel) ⟨Nat.le_of_ble_eq_true rfl, Nat.le_of_ble_eq_true rfl⟩, hts _ mw_439⟩ (hP_S kE_ok hE hH) rfl rfl hl.1 rfl (lv_room (Nat.le_of_ble_eq_true rfl)) d_Mo_node_9 ⟨Nat.le_of_ble_eq_true rfl, Nat.le_of_ble_eq_true rfl⟩) hLo (fun r1 h2 H3 locs hp5 hH z4 hLo => ?_)
  have hz : s.heap.size ≤ H3.size := Nat.le_trans hz z4
  obtain ⟨hr9, rfl⟩ := hp5
  rw [inN] at hr9
  subst hr9
  refine lv_if_eq (tgt := 28) hx hb d_Mo_node_12 (by decide) (fun hc6 => ?_) (fun hc6 => absurd rfl hc6)
  refine lv_iconst (v := 1) hx hb d_Mo_node_28 (by decide) ?_
  refine hm_put (ci := 9) (v := .int 1) (ty := .int) (C := R_Mo) (T := F_Mo) (N := 41) hx hb hts ig_Mo t_Mo tk_Mo nm_Mo hown hK hH hLo f_m rfl 0 (by decide) (hts _ mw_432) (fun _ h9 => h9) rfl (by decide +kernel) rfl rfl (Nat.le_of_ble_eq_true rfl) d_Mo_node_29 (fun H7 locs hH z8 hLo => ?_)
  have hz : s.heap.size ≤ H7.size := by rw [z8]; exact hz
  obtain ⟨h9, e10⟩ : ∃ z, z = hu h mo (.inr (9, [.int 1, .int (nI n), .int 0, .ref aBy, .ref aSt, .ref aDe, .int 0, .int (-1), .int 0, .ref aPa, .int 1, .ref aIt, .ref aId, .ref aPr, .ref aNa, .ref aSi, .ref aSe, .ref aIw, .ref aEx, .ref aOl, .int 0, .ref aPl, .int 0, .int 0, .ref aTa, .ref aAt, .ref aLo, .int 0, .int 0, .ref aS1, .ref aS2, .ref aS3, .ref aS4, .ref aS5, .ref aS6, .int 0, .ref aO1, .ref aO2, .ref aO3, .ref aO4, .ref aO5])) := ⟨_, rfl⟩
  have hH : hm D vwCl G h9 H7 := by rw [e10]; exact hH
  have f_m : h9 mo = some (.inr (9, [.int 1, .int (nI n), .int 0, .ref aBy, .ref aSt, .ref aDe, .int 0, .int (-1), .int 0, .ref aPa, .int 1, .ref aIt, .ref aId, .ref aPr, .ref aNa, .ref aSi, .ref aSe, .ref aIw, .ref aEx, .ref aOl, .int 0, .ref aPl, .int 0, .int 0, .ref aTa, .ref aAt, .ref aLo, .int 0, .int 0, .ref aS1, .ref aS2, .ref aS3, .ref aS4, .ref aS5, .ref aS6, .int 0, .ref aO1, .ref aO2, .ref aO3, .ref aO4, .ref aO5])) := by rw [e10]; exact hu_s _ _ _
  refine lv_aload_n hx hb d_Mo_node_32 rfl (lv_at hl 0 rfl) ?_
  refine hm_get (ci := 9) (v := .int 1) (C := R_Mo) (T := F_Mo) (N := 41) hx hb hts ig_Mo hown hK hH f_m rfl 0 (by decide) (hts _ mw_432) (fun _ h9 => h9) rfl d_Mo_node_33 ?_
  refine lv_iconst (v := 1) hx hb d_Mo_node_36 (by decide) ?_
  refine lv_icmp_ne (tgt := 42) hx hb d_Mo_node_37 (by decide) (fun hc11 => absurd rfl hc11) (fun hc11 => ?_)
  refine lv_iconst (v := 0) hx hb d_Mo_node_40 (by decide) ?_
  exact W.iret (v := 0) hx hb hr (fun t9 ht hW => ⟨0, h9, rfl, ⟨rfl, aBy, aSt, aDe, aPa, aIt, aId, aPr, aNa, aSi, aSe, aIw, aEx, aOl, aPl, aTa, aAt, aLo, aS1, aS2, aS3, aS4, aS5, aS6, aO1, aO2, aO3, aO4, aO5, f_m⟩, by rw [ht]; exact hH, by rw [ht]; exact hz⟩) hLo d_Mo_node_41

set_option maxHeartbeats 4000000 in
set_option maxRecDepth 100000 in
theorem c_m_name (l : Launch) (D : va_G) (t : Nat → ClassId) (G : hG) (ak av : Nat → Nat) (h : hM) (mo n : Nat) (k9 : Int32) (hM : FrM t h mo n) : Met l y_Mo_name (.code y_Mo_name b_Mo_name 2 (some .long) :: lw_g) { frames := 1, cells := 0, slots := 0, locals := 22 } (hP (kE D t G ak av) D vwCl G h [.ref mo, .int k9]) (hQl D vwCl G (fun r h' => r = 0 ∧ ThM h' mo n 1)) 0 0 G.P := by
  refine Met.ofW (cc := b_Mo_name) (maxL := 2) (ret := (some .long)) (by decide) rfl ?_
  intro p e s m args below meth c s₁ Bd hml hv
  obtain ⟨ha, hE, hH⟩ := hv
  have hx := Bd.exec
  have hb := Bd.bytes
  have hr := Bd.returns
  have hts : ∀ w ∈ lw_g, w.before args s = true := fun w hw => atoms_spec (ws := (.code y_Mo_name b_Mo_name 2 (some .long) :: lw_g)) Bd.pre w (List.mem_cons_of_mem _ hw)
  have hown : s.vm.findClass R_Mo = some m.cls := findClass_of_methodNamed Bd.named
  have hlocks := Bd.notSynchronized
  have hK := hE.1
  have hH0 := hH
  have hLo : hLc G.P [] := hLc_nil
  have hz : s.heap.size ≤ s.heap.size := Nat.le_refl _
  have hkp : kp [] h h := kp_rf
  have hl := lv_entry [.ref mo, .int k9] (n := 2) (Nat.le_of_ble_eq_true rfl)
  rw [show entryFrame m args 2 = F0 m 0 ((lg_sl [.ref mo, .int k9] ++ List.replicate (2 - (lg_sl [.ref mo, .int k9]).length) Slot.unset).toArray) [] from (by rw [ha]; exact lg_entry_eq m [.ref mo, .int k9] 2)]
  generalize (lg_sl [.ref mo, .int k9] ++ List.replicate (2 - (lg_sl [.ref mo, .int k9]).length) Slot.unset).toArray = ls at hl ⊢
  have hl : lv_has ls 2 [(0, .ref mo), (1, .int k9)] := hl
  refine FrM_elim hM ?_
  intro aBy aSt aDe aPa aIt aId aPr aNa aSi aSe aIw aEx aOl aPl aTa aAt aLo aS1 aS2 aS3 aS4 aS5 aS6 aO1 aO2 aO3 aO4 aO5 gBy gSt gDe gPa gIt gId gPr gSi gSe gIw gEx gOl gPl gTa gAt gLo gNa f_m f_aBy f_aSt f_aDe f_aPa f_aIt f_aId f_aPr f_aNa f_aSi f_aSe f_aIw f_aEx f_aOl f_aPl f_aTa f_aAt f_aLo zBy zSt zDe zIt zId zPr zSi zSe zEx ne_aIt_aId ne_aIt_aPr ne_aIt_aSi ne_aIt_aSe ne_aIt_aEx ne_aId_aPr ne_aId_aSi ne_aId_aSe ne_aId_aEx ne_aPr_aSi ne_aPr_aSe ne_aPr_aEx ne_aSi_aSe ne_aSi_aEx ne_aSe_aEx ne_aId_aAt ne_aId_aLo ne_aAt_aLo ne_aId_aOl ne_aIt_aIw ne_aId_aIw ne_aPr_aIw ne_aSi_aIw ne_aSe_aIw ne_aIw_aEx ne_aEx_aOl ne_aOl_aAt ne_aOl_aLo hn40 hn
  refine lv_aload_n hx hb d_Mo_name_0 rfl (lv_at hl 0 rfl) ?_
  refine lv_iload_n hx hb d_Mo_name_1 rfl (lv_at hl 1 rfl) ?_
  refine lv_iconst (v := 0) hx hb d_Mo_name_2 (by decide) ?_
  refine lv_aload_n hx hb d_Mo_name_3 rfl (lv_at hl 0 rfl) ?_
  refine hm_get (ci := 9) (v := .int 0) (C := R_Mo) (T := F_Mo) (N := 41) hx hb hts ig_Mo hown hK hH f_m rfl 35 (by decide) (hts _ mw_486) (fun _ h9 => h9) rfl d_Mo_name_4 ?_
  refine lv_iconst (v := 1) hx hb d_Mo_name_7 (by decide) ?_
  refine lv_isub hx hb d_Mo_name_8 ?_
  refine hm_calli (va_runS (As := [.int k9, .int 0, .int (0 - 1)]) (rest := [.ref mo]) ⟨hx, hb, hml, hown, hts⟩ (c_m_in l D t G ak av h k9 0 (0 - 1)) ⟨cw9B 3 hts mw_437 mw_438 mw_428 rfl rfl (by decide +kernel) ⟨Nat.le_of_ble_eq_true rfl, Nat.le_of_ble_eq_true rfl⟩, hts _ mw_439⟩ (hP_S kE_ok hE hH) rfl rfl hl.1 rfl (lv_room (Nat.le_of_ble_eq_true rfl)) d_Mo_name_9 ⟨Nat.le_of_ble_eq_true rfl, Nat.le_of_ble_eq_true rfl⟩) hLo (fun r1 h2 H3 locs hp5 hH z4 hLo => ?_)
  have hz : s.heap.size ≤ H3.size := Nat.le_trans hz z4
  obtain ⟨hr9, rfl⟩ := hp5
  rw [inN] at hr9
  subst hr9
  refine lv_if_eq (tgt := 19) hx hb d_Mo_name_12 (by decide) (fun hc6 => ?_) (fun hc6 => absurd rfl hc6)
  refine lv_iconst (v := 1) hx hb d_Mo_name_19 (by decide) ?_
  refine hm_put (ci := 9) (v := .int 1) (ty := .int) (C := R_Mo) (T := F_Mo) (N := 41) hx hb hts ig_Mo t_Mo tk_Mo nm_Mo hown hK hH hLo f_m rfl 0 (by decide) (hts _ mw_432) (fun _ h9 => h9) rfl (by decide +kernel) rfl rfl (Nat.le_of_ble_eq_true rfl) d_Mo_name_20 (fun H7 locs hH z8 hLo => ?_)
  have hz : s.heap.size ≤ H7.size := by rw [z8]; exact hz
  obtain ⟨h9, e10⟩ : ∃ z, z = hu h mo (.inr (9, [.int 1, .int (nI n), .int 0, .ref aBy, .ref aSt, .ref aDe, .int 0, .int (-1), .int 0, .ref aPa, .int 1, .ref aIt, .ref aId, .ref aPr, .ref aNa, .ref aSi, .ref aSe, .ref aIw, .ref aEx, .ref aOl, .int 0, .ref aPl, .int 0, .int 0, .ref aTa, .ref aAt, .ref aLo, .int 0, .int 0, .ref aS1, .ref aS2, .ref aS3, .ref aS4, .ref aS5, .ref aS6, .int 0, .ref aO1, .ref aO2, .ref aO3, .ref aO4, .ref aO5])) := ⟨_, rfl⟩
  have hH : hm D vwCl G h9 H7 := by rw [e10]; exact hH
  have f_m : h9 mo = some (.inr (9, [.int 1, .int (nI n), .int 0, .ref aBy, .ref aSt, .ref aDe, .int 0, .int (-1), .int 0, .ref aPa, .int 1, .ref aIt, .ref aId, .ref aPr, .ref aNa, .ref aSi, .ref aSe, .ref aIw, .ref aEx, .ref aOl, .int 0, .ref aPl, .int 0, .int 0, .ref aTa, .ref aAt, .ref aLo, .int 0, .int 0, .ref aS1, .ref aS2, .ref aS3, .ref aS4, .ref aS5, .ref aS6, .int 0, .ref aO1, .ref aO2, .ref aO3, .ref aO4, .ref aO5])) := by rw [e10]; exact hu_s _ _ _
  refine lv_aload_n hx hb d_Mo_name_23 rfl (lv_at hl 0 rfl) ?_
  refine hm_get (ci := 9) (v := .int 1) (C := R_Mo) (T := F_Mo) (N := 41) hx hb hts ig_Mo hown hK hH f_m rfl 0 (by decide) (hts _ mw_432) (fun _ h9 => h9) rfl d_Mo_name_24 ?_
  refine lv_iconst (v := 1) hx hb d_Mo_name_27 (by decide) ?_
  refine lv_icmp_ne (tgt := 35) hx hb d_Mo_name_28 (by decide) (fun hc11 => absurd rfl hc11) (fun hc11 => ?_)
  refine lv_lconst (v := 0) hx hb d_Mo_name_31 (by decide) ?_
  refine lv_goto (tgt := 41) hx hb d_Mo_name_32 (by decide) ?_
  exact W.lret (v := 0) hx hb hr (fun t9 ht hW => ⟨0, h9, rfl, ⟨rfl, aBy, aSt, aDe, aPa, aIt, aId, aPr, aNa, aSi, aSe, aIw, aEx, aOl, aPl, aTa, aAt, aLo, aS1, aS2, aS3, aS4, aS5, aS6, aO1, aO2, aO3, aO4, aO5, f_m⟩, by rw [ht]; exact hH, by rw [ht]; exact hz⟩) hLo d_Mo_name_41

set_option maxHeartbeats 4000000 in
set_option maxRecDepth 100000 in
theorem c_m_read (l : Launch) (D : va_G) (t : Nat → ClassId) (G : hG) (ak av : Nat → Nat) (h : hM) (mo n : Nat) (k9 w9 : Int32) (hM : FrM t h mo n) : Met l y_Mo_read (.code y_Mo_read b_Mo_read 3 (some .int) :: lw_g) { frames := 1, cells := 0, slots := 0, locals := 22 } (hP (kE D t G ak av) D vwCl G h [.ref mo, .int k9, .int w9]) (hQi D vwCl G (fun r h' => r = 0 ∧ ThM h' mo n 1)) 0 0 G.P := by
  refine Met.ofW (cc := b_Mo_read) (maxL := 3) (ret := (some .int)) (by decide) rfl ?_
  intro p e s m args below meth c s₁ Bd hml hv
  obtain ⟨ha, hE, hH⟩ := hv
  have hx := Bd.exec
  have hb := Bd.bytes
  have hr := Bd.returns
  have hts : ∀ w ∈ lw_g, w.before args s = true := fun w hw => atoms_spec (ws := (.code y_Mo_read b_Mo_read 3 (some .int) :: lw_g)) Bd.pre w (List.mem_cons_of_mem _ hw)
  have hown : s.vm.findClass R_Mo = some m.cls := findClass_of_methodNamed Bd.named
  have hlocks := Bd.notSynchronized
  have hK := hE.1
  have hH0 := hH
  have hLo : hLc G.P [] := hLc_nil
  have hz : s.heap.size ≤ s.heap.size := Nat.le_refl _
  have hkp : kp [] h h := kp_rf
  have hl := lv_entry [.ref mo, .int k9, .int w9] (n := 3) (Nat.le_of_ble_eq_true rfl)
  rw [show entryFrame m args 3 = F0 m 0 ((lg_sl [.ref mo, .int k9, .int w9] ++ List.replicate (3 - (lg_sl [.ref mo, .int k9, .int w9]).length) Slot.unset).toArray) [] from (by rw [ha]; exact lg_entry_eq m [.ref mo, .int k9, .int w9] 3)]
  generalize (lg_sl [.ref mo, .int k9, .int w9] ++ List.replicate (3 - (lg_sl [.ref mo, .int k9, .int w9]).length) Slot.unset).toArray = ls at hl ⊢
  have hl : lv_has ls 3 [(0, .ref mo), (1, .int k9), (2, .int w9)] := hl
  refine FrM_elim hM ?_
  intro aBy aSt aDe aPa aIt aId aPr aNa aSi aSe aIw aEx aOl aPl aTa aAt aLo aS1 aS2 aS3 aS4 aS5 aS6 aO1 aO2 aO3 aO4 aO5 gBy gSt gDe gPa gIt gId gPr gSi gSe gIw gEx gOl gPl gTa gAt gLo gNa f_m f_aBy f_aSt f_aDe f_aPa f_aIt f_aId f_aPr f_aNa f_aSi f_aSe f_aIw f_aEx f_aOl f_aPl f_aTa f_aAt f_aLo zBy zSt zDe zIt zId zPr zSi zSe zEx ne_aIt_aId ne_aIt_aPr ne_aIt_aSi ne_aIt_aSe ne_aIt_aEx ne_aId_aPr ne_aId_aSi ne_aId_aSe ne_aId_aEx ne_aPr_aSi ne_aPr_aSe ne_aPr_aEx ne_aSi_aSe ne_aSi_aEx ne_aSe_aEx ne_aId_aAt ne_aId_aLo ne_aAt_aLo ne_aId_aOl ne_aIt_aIw ne_aId_aIw ne_aPr_aIw ne_aSi_aIw ne_aSe_aIw ne_aIw_aEx ne_aEx_aOl ne_aOl_aAt ne_aOl_aLo hn40 hn
  refine lv_aload_n hx hb d_Mo_read_0 rfl (lv_at hl 0 rfl) ?_
  refine lv_iload_n hx hb d_Mo_read_1 rfl (lv_at hl 1 rfl) ?_
  refine lv_iconst (v := 0) hx hb d_Mo_read_2 (by decide) ?_
  refine lv_aload_n hx hb d_Mo_read_3 rfl (lv_at hl 0 rfl) ?_
  refine hm_get (ci := 9) (v := .int 0) (C := R_Mo) (T := F_Mo) (N := 41) hx hb hts ig_Mo hown hK hH f_m rfl 35 (by decide) (hts _ mw_486) (fun _ h9 => h9) rfl d_Mo_read_4 ?_
  refine lv_iconst (v := 1) hx hb d_Mo_read_7 (by decide) ?_
  refine lv_isub hx hb d_Mo_read_8 ?_
  refine hm_calli (va_runS (As := [.int k9, .int 0, .int (0 - 1)]) (rest := [.ref mo]) ⟨hx, hb, hml, hown, hts⟩ (c_m_in l D t G ak av h k9 0 (0 - 1)) ⟨cw9B 3 hts mw_437 mw_438 mw_428 rfl rfl (by decide +kernel) ⟨Nat.le_of_ble_eq_true rfl, Nat.le_of_ble_eq_true rfl⟩, hts _ mw_439⟩ (hP_S kE_ok hE hH) rfl rfl hl.1 rfl (lv_room (Nat.le_of_ble_eq_true rfl)) d_Mo_read_9 ⟨Nat.le_of_ble_eq_true rfl, Nat.le_of_ble_eq_true rfl⟩) hLo (fun r1 h2 H3 locs hp5 hH z4 hLo => ?_)
  have hz : s.heap.size ≤ H3.size := Nat.le_trans hz z4
  obtain ⟨hr9, rfl⟩ := hp5
  rw [inN] at hr9
  subst hr9
  refine lv_if_eq (tgt := 44) hx hb d_Mo_read_12 (by decide) (fun hc6 => ?_) (fun hc6 => absurd rfl hc6)
  refine lv_iconst (v := 1) hx hb d_Mo_read_44 (by decide) ?_
  refine hm_put (ci := 9) (v := .int 1) (ty := .int) (C := R_Mo) (T := F_Mo) (N := 41) hx hb hts ig_Mo t_Mo tk_Mo nm_Mo hown hK hH hLo f_m rfl 0 (by decide) (hts _ mw_432) (fun _ h9 => h9) rfl (by decide +kernel) rfl rfl (Nat.le_of_ble_eq_true rfl) d_Mo_read_45 (fun H7 locs hH z8 hLo => ?_)
  have hz : s.heap.size ≤ H7.size := by rw [z8]; exact hz
  obtain ⟨h9, e10⟩ : ∃ z, z = hu h mo (.inr (9, [.int 1, .int (nI n), .int 0, .ref aBy, .ref aSt, .ref aDe, .int 0, .int (-1), .int 0, .ref aPa, .int 1, .ref aIt, .ref aId, .ref aPr, .ref aNa, .ref aSi, .ref aSe, .ref aIw, .ref aEx, .ref aOl, .int 0, .ref aPl, .int 0, .int 0, .ref aTa, .ref aAt, .ref aLo, .int 0, .int 0, .ref aS1, .ref aS2, .ref aS3, .ref aS4, .ref aS5, .ref aS6, .int 0, .ref aO1, .ref aO2, .ref aO3, .ref aO4, .ref aO5])) := ⟨_, rfl⟩
  have hH : hm D vwCl G h9 H7 := by rw [e10]; exact hH
  have f_m : h9 mo = some (.inr (9, [.int 1, .int (nI n), .int 0, .ref aBy, .ref aSt, .ref aDe, .int 0, .int (-1), .int 0, .ref aPa, .int 1, .ref aIt, .ref aId, .ref aPr, .ref aNa, .ref aSi, .ref aSe, .ref aIw, .ref aEx, .ref aOl, .int 0, .ref aPl, .int 0, .int 0, .ref aTa, .ref aAt, .ref aLo, .int 0, .int 0, .ref aS1, .ref aS2, .ref aS3, .ref aS4, .ref aS5, .ref aS6, .int 0, .ref aO1, .ref aO2, .ref aO3, .ref aO4, .ref aO5])) := by rw [e10]; exact hu_s _ _ _
  refine lv_aload_n hx hb d_Mo_read_48 rfl (lv_at hl 0 rfl) ?_
  refine hm_get (ci := 9) (v := .int 1) (C := R_Mo) (T := F_Mo) (N := 41) hx hb hts ig_Mo hown hK hH f_m rfl 0 (by decide) (hts _ mw_432) (fun _ h9 => h9) rfl d_Mo_read_49 ?_
  refine lv_iconst (v := 1) hx hb d_Mo_read_52 (by decide) ?_
  refine lv_icmp_ne (tgt := 60) hx hb d_Mo_read_53 (by decide) (fun hc11 => absurd rfl hc11) (fun hc11 => ?_)
  refine lv_iconst (v := 0) hx hb d_Mo_read_56 (by decide) ?_
  refine lv_goto (tgt := 76) hx hb d_Mo_read_57 (by decide) ?_
  exact W.iret (v := 0) hx hb hr (fun t9 ht hW => ⟨0, h9, rfl, ⟨rfl, aBy, aSt, aDe, aPa, aIt, aId, aPr, aNa, aSi, aSe, aIw, aEx, aOl, aPl, aTa, aAt, aLo, aS1, aS2, aS3, aS4, aS5, aS6, aO1, aO2, aO3, aO4, aO5, f_m⟩, by rw [ht]; exact hH, by rw [ht]; exact hz⟩) hLo d_Mo_read_76

set_option maxHeartbeats 4000000 in
set_option maxRecDepth 100000 in
theorem c_m_tree (l : Launch) (D : va_G) (t : Nat → ClassId) (G : hG) (ak av : Nat → Nat) (h : hM) (mo n : Nat) (k9 w9 : Int32) (hM : FrM t h mo n) : Met l y_Mo_tree (.code y_Mo_tree b_Mo_tree 3 (some .int) :: lw_g) { frames := 1, cells := 0, slots := 0, locals := 22 } (hP (kE D t G ak av) D vwCl G h [.ref mo, .int k9, .int w9]) (hQi D vwCl G (fun r h' => (treeT k9 w9 = 1 → r = 0) ∧ (treeT k9 w9 = 0 → r = treeC k9 w9) ∧ ThM h' mo n (treeT k9 w9))) 0 0 G.P := by
  refine Met.ofW (cc := b_Mo_tree) (maxL := 3) (ret := (some .int)) (by decide) rfl ?_
  intro p e s m args below meth c s₁ Bd hml hv
  obtain ⟨ha, hE, hH⟩ := hv
  have hx := Bd.exec
  have hb := Bd.bytes
  have hr := Bd.returns
  have hts : ∀ w ∈ lw_g, w.before args s = true := fun w hw => atoms_spec (ws := (.code y_Mo_tree b_Mo_tree 3 (some .int) :: lw_g)) Bd.pre w (List.mem_cons_of_mem _ hw)
  have hown : s.vm.findClass R_Mo = some m.cls := findClass_of_methodNamed Bd.named
  have hlocks := Bd.notSynchronized
  have hK := hE.1
  have hH0 := hH
  have hLo : hLc G.P [] := hLc_nil
  have hz : s.heap.size ≤ s.heap.size := Nat.le_refl _
  have hkp : kp [] h h := kp_rf
  have hl := lv_entry [.ref mo, .int k9, .int w9] (n := 3) (Nat.le_of_ble_eq_true rfl)
  rw [show entryFrame m args 3 = F0 m 0 ((lg_sl [.ref mo, .int k9, .int w9] ++ List.replicate (3 - (lg_sl [.ref mo, .int k9, .int w9]).length) Slot.unset).toArray) [] from (by rw [ha]; exact lg_entry_eq m [.ref mo, .int k9, .int w9] 3)]
  generalize (lg_sl [.ref mo, .int k9, .int w9] ++ List.replicate (3 - (lg_sl [.ref mo, .int k9, .int w9]).length) Slot.unset).toArray = ls at hl ⊢
  have hl : lv_has ls 3 [(0, .ref mo), (1, .int k9), (2, .int w9)] := hl
  refine FrM_elim hM ?_
  intro aBy aSt aDe aPa aIt aId aPr aNa aSi aSe aIw aEx aOl aPl aTa aAt aLo aS1 aS2 aS3 aS4 aS5 aS6 aO1 aO2 aO3 aO4 aO5 gBy gSt gDe gPa gIt gId gPr gSi gSe gIw gEx gOl gPl gTa gAt gLo gNa f_m f_aBy f_aSt f_aDe f_aPa f_aIt f_aId f_aPr f_aNa f_aSi f_aSe f_aIw f_aEx f_aOl f_aPl f_aTa f_aAt f_aLo zBy zSt zDe zIt zId zPr zSi zSe zEx ne_aIt_aId ne_aIt_aPr ne_aIt_aSi ne_aIt_aSe ne_aIt_aEx ne_aId_aPr ne_aId_aSi ne_aId_aSe ne_aId_aEx ne_aPr_aSi ne_aPr_aSe ne_aPr_aEx ne_aSi_aSe ne_aSi_aEx ne_aSe_aEx ne_aId_aAt ne_aId_aLo ne_aAt_aLo ne_aId_aOl ne_aIt_aIw ne_aId_aIw ne_aPr_aIw ne_aSi_aIw ne_aSe_aIw ne_aIw_aEx ne_aEx_aOl ne_aOl_aAt ne_aOl_aLo hn40 hn
  refine lv_aload_n hx hb d_Mo_tree_0 rfl (lv_at hl 0 rfl) ?_
  refine lv_aload_n hx hb d_Mo_tree_1 rfl (lv_at hl 0 rfl) ?_
  refine lv_iload_n hx hb d_Mo_tree_2 rfl (lv_at hl 1 rfl) ?_
  by_cases hin : k9 = 0
  · skip
    refine hm_calli (va_runV (As := [.int k9]) (b := mo) (rest := [.ref mo]) ⟨hx, hb, hml, hown, hts⟩ (c_m_isNode l D t G ak av h mo n aBy aSt aDe aPa aIt aId aPr aNa aSi aSe aIw aEx aOl aPl aTa aAt aLo aS1 aS2 aS3 aS4 aS5 aS6 aO1 aO2 aO3 aO4 aO5 gIt k9 f_m f_aIt zIt) ⟨cw9B 1 hts mw_444 mw_445 mw_428 rfl rfl (by decide +kernel) ⟨Nat.le_of_ble_eq_true rfl, Nat.le_of_ble_eq_true rfl⟩, hts _ mw_446, hts _ mw_447⟩ (hP_V (q := (R_Mo, F_Mo, 41)) kE_ok hE hK hH f_m rfl) rfl rfl hl.1 rfl (lv_room (Nat.le_of_ble_eq_true rfl)) d_Mo_tree_3 ⟨Nat.le_of_ble_eq_true rfl, Nat.le_of_ble_eq_true rfl⟩) hLo (fun r1 h2 H3 locs hp5 hH z4 hLo => ?_)
    have hz : s.heap.size ≤ H3.size := Nat.le_trans hz z4
    obtain ⟨hr9, rfl⟩ := hp5
    rw [if_pos hin] at hr9
    subst hr9
    have hink := hin
    subst hin
    refine lv_if_eq (tgt := 22) hx hb d_Mo_tree_6 (by decide) (fun hc6 => absurd hc6 (by decide)) (fun hc6 => ?_)
    refine lv_iload_n hx hb d_Mo_tree_9 rfl (lv_at hl 2 rfl) ?_
    refine lv_iconst (v := 0) hx hb d_Mo_tree_10 (by decide) ?_
    refine lv_iconst (v := 4) hx hb d_Mo_tree_11 (by decide) ?_
    refine hm_calli (va_runS (As := [.int w9, .int 0, .int 4]) (rest := [.ref mo]) ⟨hx, hb, hml, hown, hts⟩ (c_m_in l D t G ak av h w9 0 4) ⟨cw9B 3 hts mw_437 mw_438 mw_428 rfl rfl (by decide +kernel) ⟨Nat.le_of_ble_eq_true rfl, Nat.le_of_ble_eq_true rfl⟩, hts _ mw_439⟩ (hP_S kE_ok hE hH) rfl rfl hl.1 rfl (lv_room (Nat.le_of_ble_eq_true rfl)) d_Mo_tree_12 ⟨Nat.le_of_ble_eq_true rfl, Nat.le_of_ble_eq_true rfl⟩) hLo (fun r7 h8 H9 locs hp11 hH z10 hLo => ?_)
    have hz : s.heap.size ≤ H9.size := Nat.le_trans hz z10
    obtain ⟨rfl, rfl⟩ := hp11
    refine lv_if_eq (tgt := 22) hx hb d_Mo_tree_15 (by decide) (fun hc12 => ?_) (fun hc12 => ?_)
    · skip
      refine lv_iconst (v := 1) hx hb d_Mo_tree_22 (by decide) ?_
      refine hm_put (ci := 9) (v := .int 1) (ty := .int) (C := R_Mo) (T := F_Mo) (N := 41) hx hb hts ig_Mo t_Mo tk_Mo nm_Mo hown hK hH hLo f_m rfl 0 (by decide) (hts _ mw_432) (fun _ h9 => h9) rfl (by decide +kernel) rfl rfl (Nat.le_of_ble_eq_true rfl) d_Mo_tree_23 (fun H13 locs hH z14 hLo => ?_)
      have hz : s.heap.size ≤ H13.size := by rw [z14]; exact hz
      obtain ⟨h15, e16⟩ : ∃ z, z = hu h mo (.inr (9, [.int 1, .int (nI n), .int 0, .ref aBy, .ref aSt, .ref aDe, .int 0, .int (-1), .int 0, .ref aPa, .int 1, .ref aIt, .ref aId, .ref aPr, .ref aNa, .ref aSi, .ref aSe, .ref aIw, .ref aEx, .ref aOl, .int 0, .ref aPl, .int 0, .int 0, .ref aTa, .ref aAt, .ref aLo, .int 0, .int 0, .ref aS1, .ref aS2, .ref aS3, .ref aS4, .ref aS5, .ref aS6, .int 0, .ref aO1, .ref aO2, .ref aO3, .ref aO4, .ref aO5])) := ⟨_, rfl⟩
      have hH : hm D vwCl G h15 H13 := by rw [e16]; exact hH
      have f_aIt : h15 aIt = some (.inl ((t 1), 700, .inl gIt)) := by rw [e16, hu_n (h_neA f_aIt f_m)]; exact f_aIt
      have f_aPr : h15 aPr = some (.inl ((t 2), 700, .inl gPr)) := by rw [e16, hu_n (h_neA f_aPr f_m)]; exact f_aPr
      have f_aId : h15 aId = some (.inl ((t 1), 700, .inl gId)) := by rw [e16, hu_n (h_neA f_aId f_m)]; exact f_aId
      have f_aSi : h15 aSi = some (.inl ((t 2), 700, .inl gSi)) := by rw [e16, hu_n (h_neA f_aSi f_m)]; exact f_aSi
      have f_aSe : h15 aSe = some (.inl ((t 2), 700, .inl gSe)) := by rw [e16, hu_n (h_neA f_aSe f_m)]; exact f_aSe
      have f_aEx : h15 aEx = some (.inl ((t 2), 700, .inl gEx)) := by rw [e16, hu_n (h_neA f_aEx f_m)]; exact f_aEx
      have f_m : h15 mo = some (.inr (9, [.int 1, .int (nI n), .int 0, .ref aBy, .ref aSt, .ref aDe, .int 0, .int (-1), .int 0, .ref aPa, .int 1, .ref aIt, .ref aId, .ref aPr, .ref aNa, .ref aSi, .ref aSe, .ref aIw, .ref aEx, .ref aOl, .int 0, .ref aPl, .int 0, .int 0, .ref aTa, .ref aAt, .ref aLo, .int 0, .int 0, .ref aS1, .ref aS2, .ref aS3, .ref aS4, .ref aS5, .ref aS6, .int 0, .ref aO1, .ref aO2, .ref aO3, .ref aO4, .ref aO5])) := by rw [e16]; exact hu_s _ _ _
      refine lv_aload_n hx hb d_Mo_tree_26 rfl (lv_at hl 0 rfl) ?_
      refine hm_get (ci := 9) (v := .int 1) (C := R_Mo) (T := F_Mo) (N := 41) hx hb hts ig_Mo hown hK hH f_m rfl 0 (by decide) (hts _ mw_432) (fun _ h9 => h9) rfl d_Mo_tree_27 ?_
      refine lv_iconst (v := 1) hx hb d_Mo_tree_30 (by decide) ?_
      refine lv_icmp_ne (tgt := 36) hx hb d_Mo_tree_31 (by decide) (fun hc17 => absurd rfl hc17) (fun hc17 => ?_)
      refine lv_iconst (v := 0) hx hb d_Mo_tree_34 (by decide) ?_
      exact W.iret (v := 0) hx hb hr (fun t9 ht hW => ⟨0, h15, rfl, ⟨fun _ => rfl, fun q => absurd (q.symm.trans ((show treeT 0 w9 = 1 by rw [treeT, if_pos rfl, if_pos hc12]))) (by decide), aBy, aSt, aDe, aPa, aIt, aId, aPr, aNa, aSi, aSe, aIw, aEx, aOl, aPl, aTa, aAt, aLo, aS1, aS2, aS3, aS4, aS5, aS6, aO1, aO2, aO3, aO4, aO5, by rw [(show treeT 0 w9 = 1 by rw [treeT, if_pos rfl, if_pos hc12])]; exact f_m⟩, by rw [ht]; exact hH, by rw [ht]; exact hz⟩) hLo d_Mo_tree_35
    · skip
      have hT : treeT 0 w9 = 0 := by rw [treeT, if_pos rfl, if_neg hc12]
      refine lv_iconst (v := 0) hx hb d_Mo_tree_18 (by decide) ?_
      refine lv_goto (tgt := 23) hx hb d_Mo_tree_19 (by decide) ?_
      refine hm_put (ci := 9) (v := .int 0) (ty := .int) (C := R_Mo) (T := F_Mo) (N := 41) hx hb hts ig_Mo t_Mo tk_Mo nm_Mo hown hK hH hLo f_m rfl 0 (by decide) (hts _ mw_432) (fun _ h9 => h9) rfl (by decide +kernel) rfl rfl (Nat.le_of_ble_eq_true rfl) d_Mo_tree_23 (fun H18 locs hH z19 hLo => ?_)
      have hz : s.heap.size ≤ H18.size := by rw [z19]; exact hz
      obtain ⟨h20, e21⟩ : ∃ z, z = hu h mo (.inr (9, [.int 0, .int (nI n), .int 0, .ref aBy, .ref aSt, .ref aDe, .int 0, .int (-1), .int 0, .ref aPa, .int 1, .ref aIt, .ref aId, .ref aPr, .ref aNa, .ref aSi, .ref aSe, .ref aIw, .ref aEx, .ref aOl, .int 0, .ref aPl, .int 0, .int 0, .ref aTa, .ref aAt, .ref aLo, .int 0, .int 0, .ref aS1, .ref aS2, .ref aS3, .ref aS4, .ref aS5, .ref aS6, .int 0, .ref aO1, .ref aO2, .ref aO3, .ref aO4, .ref aO5])) := ⟨_, rfl⟩
      have hH : hm D vwCl G h20 H18 := by rw [e21]; exact hH
      have f_aIt : h20 aIt = some (.inl ((t 1), 700, .inl gIt)) := by rw [e21, hu_n (h_neA f_aIt f_m)]; exact f_aIt
      have f_aPr : h20 aPr = some (.inl ((t 2), 700, .inl gPr)) := by rw [e21, hu_n (h_neA f_aPr f_m)]; exact f_aPr
      have f_aId : h20 aId = some (.inl ((t 1), 700, .inl gId)) := by rw [e21, hu_n (h_neA f_aId f_m)]; exact f_aId
      have f_aSi : h20 aSi = some (.inl ((t 2), 700, .inl gSi)) := by rw [e21, hu_n (h_neA f_aSi f_m)]; exact f_aSi
      have f_aSe : h20 aSe = some (.inl ((t 2), 700, .inl gSe)) := by rw [e21, hu_n (h_neA f_aSe f_m)]; exact f_aSe
      have f_aEx : h20 aEx = some (.inl ((t 2), 700, .inl gEx)) := by rw [e21, hu_n (h_neA f_aEx f_m)]; exact f_aEx
      have f_m : h20 mo = some (.inr (9, [.int 0, .int (nI n), .int 0, .ref aBy, .ref aSt, .ref aDe, .int 0, .int (-1), .int 0, .ref aPa, .int 1, .ref aIt, .ref aId, .ref aPr, .ref aNa, .ref aSi, .ref aSe, .ref aIw, .ref aEx, .ref aOl, .int 0, .ref aPl, .int 0, .int 0, .ref aTa, .ref aAt, .ref aLo, .int 0, .int 0, .ref aS1, .ref aS2, .ref aS3, .ref aS4, .ref aS5, .ref aS6, .int 0, .ref aO1, .ref aO2, .ref aO3, .ref aO4, .ref aO5])) := by rw [e21]; exact hu_s _ _ _
      refine lv_aload_n hx hb d_Mo_tree_26 rfl (lv_at hl 0 rfl) ?_
      refine hm_get (ci := 9) (v := .int 0) (C := R_Mo) (T := F_Mo) (N := 41) hx hb hts ig_Mo hown hK hH f_m rfl 0 (by decide) (hts _ mw_432) (fun _ h9 => h9) rfl d_Mo_tree_27 ?_
      refine lv_iconst (v := 1) hx hb d_Mo_tree_30 (by decide) ?_
      refine lv_icmp_ne (tgt := 36) hx hb d_Mo_tree_31 (by decide) (fun hc22 => ?_) (fun hc22 => absurd hc22 (by decide))
      refine lv_iload_n hx hb d_Mo_tree_36 rfl (lv_at hl 2 rfl) ?_
      refine lv_if_ne (tgt := 49) hx hb d_Mo_tree_37 (by decide) (fun hc23 => ?_) (fun hc23 => ?_)
      · skip
        refine lv_iload_n hx hb d_Mo_tree_49 rfl (lv_at hl 2 rfl) ?_
        refine lv_iconst (v := 1) hx hb d_Mo_tree_50 (by decide) ?_
        refine lv_icmp_ne (tgt := 71) hx hb d_Mo_tree_51 (by decide) (fun hc24 => ?_) (fun hc24 => ?_)
        · skip
          refine lv_iload_n hx hb d_Mo_tree_71 rfl (lv_at hl 2 rfl) ?_
          refine lv_iconst (v := 2) hx hb d_Mo_tree_72 (by decide) ?_
          refine lv_icmp_ne (tgt := 85) hx hb d_Mo_tree_73 (by decide) (fun hc25 => ?_) (fun hc25 => ?_)
          · skip
            refine lv_iload_n hx hb d_Mo_tree_85 rfl (lv_at hl 2 rfl) ?_
            refine lv_iconst (v := 3) hx hb d_Mo_tree_86 (by decide) ?_
            refine lv_icmp_ne (tgt := 99) hx hb d_Mo_tree_87 (by decide) (fun hc26 => ?_) (fun hc26 => ?_)
            · skip
              refine lv_aload_n hx hb d_Mo_tree_99 rfl (lv_at hl 0 rfl) ?_
              refine hm_get (ci := 9) (v := .ref aEx) (C := R_Mo) (T := F_Mo) (N := 41) hx hb hts ig_Mo hown hK hH f_m rfl 18 (by decide) (hts _ mw_397) (fun _ h9 => h9) rfl d_Mo_tree_100 ?_
              refine lv_iload_n hx hb d_Mo_tree_103 rfl (lv_at hl 1 rfl) ?_
              refine hj_iald hx hb hK hH 2 f_aEx rfl 0 (by decide) (by decide) (by decide) d_Mo_tree_104 ?_
              exact W.iret (v := gEx 0) hx hb hr (fun t9 ht hW => ⟨gEx 0, h20, rfl, ⟨fun q => absurd (q.symm.trans hT) (by decide), fun _ => by rw [zEx, treeC, if_neg hc23], aBy, aSt, aDe, aPa, aIt, aId, aPr, aNa, aSi, aSe, aIw, aEx, aOl, aPl, aTa, aAt, aLo, aS1, aS2, aS3, aS4, aS5, aS6, aO1, aO2, aO3, aO4, aO5, by rw [hT]; exact f_m⟩, by rw [ht]; exact hH, by rw [ht]; exact hz⟩) hLo d_Mo_tree_105
            · skip
              refine lv_aload_n hx hb d_Mo_tree_90 rfl (lv_at hl 0 rfl) ?_
              refine hm_get (ci := 9) (v := .ref aSe) (C := R_Mo) (T := F_Mo) (N := 41) hx hb hts ig_Mo hown hK hH f_m rfl 16 (by decide) (hts _ mw_396) (fun _ h9 => h9) rfl d_Mo_tree_91 ?_
              refine lv_iload_n hx hb d_Mo_tree_94 rfl (lv_at hl 1 rfl) ?_
              refine hj_iald hx hb hK hH 2 f_aSe rfl 0 (by decide) (by decide) (by decide) d_Mo_tree_95 ?_
              refine lv_goto (tgt := 105) hx hb d_Mo_tree_96 (by decide) ?_
              exact W.iret (v := gSe 0) hx hb hr (fun t9 ht hW => ⟨gSe 0, h20, rfl, ⟨fun q => absurd (q.symm.trans hT) (by decide), fun _ => by rw [zSe, treeC, if_neg hc23], aBy, aSt, aDe, aPa, aIt, aId, aPr, aNa, aSi, aSe, aIw, aEx, aOl, aPl, aTa, aAt, aLo, aS1, aS2, aS3, aS4, aS5, aS6, aO1, aO2, aO3, aO4, aO5, by rw [hT]; exact f_m⟩, by rw [ht]; exact hH, by rw [ht]; exact hz⟩) hLo d_Mo_tree_105
          · skip
            refine lv_aload_n hx hb d_Mo_tree_76 rfl (lv_at hl 0 rfl) ?_
            refine hm_get (ci := 9) (v := .ref aSi) (C := R_Mo) (T := F_Mo) (N := 41) hx hb hts ig_Mo hown hK hH f_m rfl 15 (by decide) (hts _ mw_395) (fun _ h9 => h9) rfl d_Mo_tree_77 ?_
            refine lv_iload_n hx hb d_Mo_tree_80 rfl (lv_at hl 1 rfl) ?_
            refine hj_iald hx hb hK hH 2 f_aSi rfl 0 (by decide) (by decide) (by decide) d_Mo_tree_81 ?_
            refine lv_goto (tgt := 105) hx hb d_Mo_tree_82 (by decide) ?_
            exact W.iret (v := gSi 0) hx hb hr (fun t9 ht hW => ⟨gSi 0, h20, rfl, ⟨fun q => absurd (q.symm.trans hT) (by decide), fun _ => by rw [zSi, treeC, if_neg hc23], aBy, aSt, aDe, aPa, aIt, aId, aPr, aNa, aSi, aSe, aIw, aEx, aOl, aPl, aTa, aAt, aLo, aS1, aS2, aS3, aS4, aS5, aS6, aO1, aO2, aO3, aO4, aO5, by rw [hT]; exact f_m⟩, by rw [ht]; exact hH, by rw [ht]; exact hz⟩) hLo d_Mo_tree_105
        · skip
          refine lv_aload_n hx hb d_Mo_tree_54 rfl (lv_at hl 0 rfl) ?_
          refine hm_get (ci := 9) (v := .ref aId) (C := R_Mo) (T := F_Mo) (N := 41) hx hb hts ig_Mo hown hK hH f_m rfl 12 (by decide) (hts _ mw_392) (fun _ h9 => h9) rfl d_Mo_tree_55 ?_
          refine lv_iload_n hx hb d_Mo_tree_58 rfl (lv_at hl 1 rfl) ?_
          refine hj_zald hx hb hK hH 1 f_aId rfl 0 (by decide) (by decide) (by decide) d_Mo_tree_59 ?_
          refine lv_if_eq (tgt := 67) hx hb d_Mo_tree_60 (by decide) (fun hc27 => absurd hc27 (by rw [zId]; decide)) (fun hc27 => ?_)
          refine lv_iconst (v := 0) hx hb d_Mo_tree_63 (by decide) ?_
          refine lv_goto (tgt := 105) hx hb d_Mo_tree_64 (by decide) ?_
          exact W.iret (v := 0) hx hb hr (fun t9 ht hW => ⟨0, h20, rfl, ⟨fun q => absurd (q.symm.trans hT) (by decide), fun _ => by rw [treeC, if_neg hc23], aBy, aSt, aDe, aPa, aIt, aId, aPr, aNa, aSi, aSe, aIw, aEx, aOl, aPl, aTa, aAt, aLo, aS1, aS2, aS3, aS4, aS5, aS6, aO1, aO2, aO3, aO4, aO5, by rw [hT]; exact f_m⟩, by rw [ht]; exact hH, by rw [ht]; exact hz⟩) hLo d_Mo_tree_105
      · skip
        refine lv_aload_n hx hb d_Mo_tree_40 rfl (lv_at hl 0 rfl) ?_
        refine hm_get (ci := 9) (v := .ref aPr) (C := R_Mo) (T := F_Mo) (N := 41) hx hb hts ig_Mo hown hK hH f_m rfl 13 (by decide) (hts _ mw_393) (fun _ h9 => h9) rfl d_Mo_tree_41 ?_
        refine lv_iload_n hx hb d_Mo_tree_44 rfl (lv_at hl 1 rfl) ?_
        refine hj_iald hx hb hK hH 2 f_aPr rfl 0 (by decide) (by decide) (by decide) d_Mo_tree_45 ?_
        refine lv_goto (tgt := 105) hx hb d_Mo_tree_46 (by decide) ?_
        exact W.iret (v := gPr 0) hx hb hr (fun t9 ht hW => ⟨gPr 0, h20, rfl, ⟨fun q => absurd (q.symm.trans hT) (by decide), fun _ => by rw [zPr, treeC, if_pos hc23], aBy, aSt, aDe, aPa, aIt, aId, aPr, aNa, aSi, aSe, aIw, aEx, aOl, aPl, aTa, aAt, aLo, aS1, aS2, aS3, aS4, aS5, aS6, aO1, aO2, aO3, aO4, aO5, by rw [hT]; exact f_m⟩, by rw [ht]; exact hH, by rw [ht]; exact hz⟩) hLo d_Mo_tree_105
  · skip
    refine hm_calli (va_runV (As := [.int k9]) (b := mo) (rest := [.ref mo]) ⟨hx, hb, hml, hown, hts⟩ (c_m_isNode l D t G ak av h mo n aBy aSt aDe aPa aIt aId aPr aNa aSi aSe aIw aEx aOl aPl aTa aAt aLo aS1 aS2 aS3 aS4 aS5 aS6 aO1 aO2 aO3 aO4 aO5 gIt k9 f_m f_aIt zIt) ⟨cw9B 1 hts mw_444 mw_445 mw_428 rfl rfl (by decide +kernel) ⟨Nat.le_of_ble_eq_true rfl, Nat.le_of_ble_eq_true rfl⟩, hts _ mw_446, hts _ mw_447⟩ (hP_V (q := (R_Mo, F_Mo, 41)) kE_ok hE hK hH f_m rfl) rfl rfl hl.1 rfl (lv_room (Nat.le_of_ble_eq_true rfl)) d_Mo_tree_3 ⟨Nat.le_of_ble_eq_true rfl, Nat.le_of_ble_eq_true rfl⟩) hLo (fun r28 h29 H30 locs hp32 hH z31 hLo => ?_)
    have hz : s.heap.size ≤ H30.size := Nat.le_trans hz z31
    obtain ⟨hr9, rfl⟩ := hp32
    rw [if_neg hin] at hr9
    subst hr9
    refine lv_if_eq (tgt := 22) hx hb d_Mo_tree_6 (by decide) (fun hc33 => ?_) (fun hc33 => absurd rfl hc33)
    refine lv_iconst (v := 1) hx hb d_Mo_tree_22 (by decide) ?_
    refine hm_put (ci := 9) (v := .int 1) (ty := .int) (C := R_Mo) (T := F_Mo) (N := 41) hx hb hts ig_Mo t_Mo tk_Mo nm_Mo hown hK hH hLo f_m rfl 0 (by decide) (hts _ mw_432) (fun _ h9 => h9) rfl (by decide +kernel) rfl rfl (Nat.le_of_ble_eq_true rfl) d_Mo_tree_23 (fun H34 locs hH z35 hLo => ?_)
    have hz : s.heap.size ≤ H34.size := by rw [z35]; exact hz
    obtain ⟨h36, e37⟩ : ∃ z, z = hu h mo (.inr (9, [.int 1, .int (nI n), .int 0, .ref aBy, .ref aSt, .ref aDe, .int 0, .int (-1), .int 0, .ref aPa, .int 1, .ref aIt, .ref aId, .ref aPr, .ref aNa, .ref aSi, .ref aSe, .ref aIw, .ref aEx, .ref aOl, .int 0, .ref aPl, .int 0, .int 0, .ref aTa, .ref aAt, .ref aLo, .int 0, .int 0, .ref aS1, .ref aS2, .ref aS3, .ref aS4, .ref aS5, .ref aS6, .int 0, .ref aO1, .ref aO2, .ref aO3, .ref aO4, .ref aO5])) := ⟨_, rfl⟩
    have hH : hm D vwCl G h36 H34 := by rw [e37]; exact hH
    have f_aIt : h36 aIt = some (.inl ((t 1), 700, .inl gIt)) := by rw [e37, hu_n (h_neA f_aIt f_m)]; exact f_aIt
    have f_aPr : h36 aPr = some (.inl ((t 2), 700, .inl gPr)) := by rw [e37, hu_n (h_neA f_aPr f_m)]; exact f_aPr
    have f_aId : h36 aId = some (.inl ((t 1), 700, .inl gId)) := by rw [e37, hu_n (h_neA f_aId f_m)]; exact f_aId
    have f_aSi : h36 aSi = some (.inl ((t 2), 700, .inl gSi)) := by rw [e37, hu_n (h_neA f_aSi f_m)]; exact f_aSi
    have f_aSe : h36 aSe = some (.inl ((t 2), 700, .inl gSe)) := by rw [e37, hu_n (h_neA f_aSe f_m)]; exact f_aSe
    have f_aEx : h36 aEx = some (.inl ((t 2), 700, .inl gEx)) := by rw [e37, hu_n (h_neA f_aEx f_m)]; exact f_aEx
    have f_m : h36 mo = some (.inr (9, [.int 1, .int (nI n), .int 0, .ref aBy, .ref aSt, .ref aDe, .int 0, .int (-1), .int 0, .ref aPa, .int 1, .ref aIt, .ref aId, .ref aPr, .ref aNa, .ref aSi, .ref aSe, .ref aIw, .ref aEx, .ref aOl, .int 0, .ref aPl, .int 0, .int 0, .ref aTa, .ref aAt, .ref aLo, .int 0, .int 0, .ref aS1, .ref aS2, .ref aS3, .ref aS4, .ref aS5, .ref aS6, .int 0, .ref aO1, .ref aO2, .ref aO3, .ref aO4, .ref aO5])) := by rw [e37]; exact hu_s _ _ _
    refine lv_aload_n hx hb d_Mo_tree_26 rfl (lv_at hl 0 rfl) ?_
    refine hm_get (ci := 9) (v := .int 1) (C := R_Mo) (T := F_Mo) (N := 41) hx hb hts ig_Mo hown hK hH f_m rfl 0 (by decide) (hts _ mw_432) (fun _ h9 => h9) rfl d_Mo_tree_27 ?_
    refine lv_iconst (v := 1) hx hb d_Mo_tree_30 (by decide) ?_
    refine lv_icmp_ne (tgt := 36) hx hb d_Mo_tree_31 (by decide) (fun hc38 => absurd rfl hc38) (fun hc38 => ?_)
    refine lv_iconst (v := 0) hx hb d_Mo_tree_34 (by decide) ?_
    exact W.iret (v := 0) hx hb hr (fun t9 ht hW => ⟨0, h36, rfl, ⟨fun _ => rfl, fun q => absurd (q.symm.trans ((show treeT k9 w9 = 1 from if_neg hin))) (by decide), aBy, aSt, aDe, aPa, aIt, aId, aPr, aNa, aSi, aSe, aIw, aEx, aOl, aPl, aTa, aAt, aLo, aS1, aS2, aS3, aS4, aS5, aS6, aO1, aO2, aO3, aO4, aO5, by rw [(show treeT k9 w9 = 1 from if_neg hin)]; exact f_m⟩, by rw [ht]; exact hH, by rw [ht]; exact hz⟩) hLo d_Mo_tree_35
