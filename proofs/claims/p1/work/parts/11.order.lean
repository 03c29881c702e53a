set_option maxRecDepth 100000 in
theorem mw_180 : Cond.fieldLink R_Wr 27 "WriteOnceDisc$Nodes" "count" "I" ∈ lw_g := lw_gin (List.mem_append_right _ (List.mem_of_getElem? (i := 185) rfl)) (by decide +kernel)
set_option maxRecDepth 100000 in
theorem mw_181 : Cond.fieldLink R_Wr 115 "WriteOnceDisc$Nodes" "order" "[LWriteOnceDisc$Node;" ∈ lw_g := lw_gin (List.mem_append_right _ (List.mem_of_getElem? (i := 183) rfl)) (by decide +kernel)
set_option maxRecDepth 100000 in
theorem mw_182 : Cond.fieldLink R_Wr 118 "WriteOnceDisc$Node" "isDirectory" "Z" ∈ lw_g := lw_gin (List.mem_append_right _ (List.mem_of_getElem? (i := 102) rfl)) (by decide +kernel)
set_option maxRecDepth 100000 in
theorem mw_183 : Cond.fieldLink R_Wr 57 "WriteOnceDisc$Node" "sector" "I" ∈ lw_g := lw_gin (List.mem_append_right _ (List.mem_of_getElem? (i := 124) rfl)) (by decide +kernel)
set_option maxRecDepth 100000 in
theorem mw_184 : Cond.fieldLink R_Ns 54 "WriteOnceDisc$Node" "parent" "LWriteOnceDisc$Node;" ∈ lw_g := lw_gin (List.mem_append_right _ (List.mem_of_getElem? (i := 94) rfl)) (by decide +kernel)
set_option maxRecDepth 100000 in
theorem mw_185 : Cond.fieldLink R_Ns 58 "WriteOnceDisc$Node" "isDirectory" "Z" ∈ lw_g := lw_gin (List.mem_append_right _ (List.mem_of_getElem? (i := 100) rfl)) (by decide +kernel)
set_option maxRecDepth 100000 in
theorem mw_186 : Cond.code y_Ns_listChildren b_Ns_listChildren 6 (some .int) ∈ lw_g := lw_gin (List.mem_append_right _ (List.mem_of_getElem? (i := 459) rfl)) (by decide +kernel)
set_option maxRecDepth 100000 in
theorem mw_187 : Cond.initialized R_Ns ∈ lw_g := lw_gin (List.mem_append_right _ (List.mem_of_getElem? (i := 7) rfl)) (by decide +kernel)
set_option maxRecDepth 100000 in
theorem mw_188 : Cond.methodLink R_Ns 86 y_Ns_listChildren ∈ lw_g := lw_gin (List.mem_append_right _ (List.mem_of_getElem? (i := 456) rfl)) (by decide +kernel)
set_option maxRecDepth 100000 in
theorem mw_189 : Cond.instanceMethod y_Ns_listChildren ∈ lw_g := lw_gin (List.mem_append_right _ (List.mem_of_getElem? (i := 458) rfl)) (by decide +kernel)
set_option maxRecDepth 100000 in
theorem mw_190 : Cond.selects R_Ns y_Ns_listChildren y_Ns_listChildren ∈ lw_g := lw_gin (List.mem_append_left _ (List.mem_of_getElem? (i := 3) rfl)) (by decide +kernel)
theorem d_Wr_placeDirectories_0 : decode b_Wr_placeDirectories 0 = .ok (.iconst 0, 1) := by decide +kernel
theorem d_Wr_placeDirectories_1 : decode b_Wr_placeDirectories 1 = .ok (.istore_n 3, 1) := by decide +kernel
theorem d_Wr_placeDirectories_2 : decode b_Wr_placeDirectories 2 = .ok (.iconst 0, 1) := by decide +kernel
theorem d_Wr_placeDirectories_3 : decode b_Wr_placeDirectories 3 = .ok (.istore 4, 2) := by decide +kernel
theorem d_Wr_placeDirectories_5 : decode b_Wr_placeDirectories 5 = .ok (.iload 4, 2) := by decide +kernel
theorem d_Wr_placeDirectories_7 : decode b_Wr_placeDirectories 7 = .ok (.aload_n 1, 1) := by decide +kernel
theorem d_Wr_placeDirectories_8 : decode b_Wr_placeDirectories 8 = .ok (.getfield 27, 3) := by decide +kernel
theorem d_Wr_placeDirectories_11 : decode b_Wr_placeDirectories 11 = .ok (.if_icmp .ge 38, 3) := by decide +kernel
theorem d_Wr_placeDirectories_14 : decode b_Wr_placeDirectories 14 = .ok (.aload_n 1, 1) := by decide +kernel
theorem d_Wr_placeDirectories_15 : decode b_Wr_placeDirectories 15 = .ok (.getfield 115, 3) := by decide +kernel
theorem d_Wr_placeDirectories_18 : decode b_Wr_placeDirectories 18 = .ok (.iload 4, 2) := by decide +kernel
theorem d_Wr_placeDirectories_20 : decode b_Wr_placeDirectories 20 = .ok (.aaload, 1) := by decide +kernel
theorem d_Wr_placeDirectories_21 : decode b_Wr_placeDirectories 21 = .ok (.getfield 118, 3) := by decide +kernel
theorem d_Wr_placeDirectories_24 : decode b_Wr_placeDirectories 24 = .ok (.ifCond .eq 19, 3) := by decide +kernel
theorem d_Wr_placeDirectories_27 : decode b_Wr_placeDirectories 27 = .ok (.aload_n 1, 1) := by decide +kernel
theorem d_Wr_placeDirectories_28 : decode b_Wr_placeDirectories 28 = .ok (.getfield 115, 3) := by decide +kernel
theorem d_Wr_placeDirectories_31 : decode b_Wr_placeDirectories 31 = .ok (.iload 4, 2) := by decide +kernel
theorem d_Wr_placeDirectories_33 : decode b_Wr_placeDirectories 33 = .ok (.aaload, 1) := by decide +kernel
theorem d_Wr_placeDirectories_34 : decode b_Wr_placeDirectories 34 = .ok (.iload_n 2, 1) := by decide +kernel
theorem d_Wr_placeDirectories_35 : decode b_Wr_placeDirectories 35 = .ok (.iload_n 3, 1) := by decide +kernel
theorem d_Wr_placeDirectories_36 : decode b_Wr_placeDirectories 36 = .ok (.iadd, 1) := by decide +kernel
theorem d_Wr_placeDirectories_37 : decode b_Wr_placeDirectories 37 = .ok (.putfield 57, 3) := by decide +kernel
theorem d_Wr_placeDirectories_40 : decode b_Wr_placeDirectories 40 = .ok (.iinc 3 1, 3) := by decide +kernel
theorem d_Wr_placeDirectories_43 : decode b_Wr_placeDirectories 43 = .ok (.iinc 4 1, 3) := by decide +kernel
theorem d_Wr_placeDirectories_46 : decode b_Wr_placeDirectories 46 = .ok (.goto (-41), 3) := by decide +kernel
theorem d_Wr_placeDirectories_49 : decode b_Wr_placeDirectories 49 = .ok (.iload_n 3, 1) := by decide +kernel
theorem d_Wr_placeDirectories_50 : decode b_Wr_placeDirectories 50 = .ok (.ireturn, 1) := by decide +kernel
theorem d_Ns_listChildren_0 : decode b_Ns_listChildren 0 = .ok (.iload_n 2, 1) := by decide +kernel
theorem d_Ns_listChildren_1 : decode b_Ns_listChildren 1 = .ok (.istore_n 3, 1) := by decide +kernel
theorem d_Ns_listChildren_2 : decode b_Ns_listChildren 2 = .ok (.iconst 0, 1) := by decide +kernel
theorem d_Ns_listChildren_3 : decode b_Ns_listChildren 3 = .ok (.istore 4, 2) := by decide +kernel
theorem d_Ns_listChildren_5 : decode b_Ns_listChildren 5 = .ok (.iload 4, 2) := by decide +kernel
theorem d_Ns_listChildren_7 : decode b_Ns_listChildren 7 = .ok (.aload_n 0, 1) := by decide +kernel
theorem d_Ns_listChildren_8 : decode b_Ns_listChildren 8 = .ok (.getfield 20, 3) := by decide +kernel
theorem d_Ns_listChildren_11 : decode b_Ns_listChildren 11 = .ok (.if_icmp .ge 99, 3) := by decide +kernel
theorem d_Ns_listChildren_14 : decode b_Ns_listChildren 14 = .ok (.iload_n 3, 1) := by decide +kernel
theorem d_Ns_listChildren_15 : decode b_Ns_listChildren 15 = .ok (.bipush 30, 2) := by decide +kernel
theorem d_Ns_listChildren_17 : decode b_Ns_listChildren 17 = .ok (.if_icmp .ge 93, 3) := by decide +kernel
theorem d_Ns_listChildren_20 : decode b_Ns_listChildren 20 = .ok (.aload_n 0, 1) := by decide +kernel
theorem d_Ns_listChildren_21 : decode b_Ns_listChildren 21 = .ok (.getfield 11, 3) := by decide +kernel
theorem d_Ns_listChildren_24 : decode b_Ns_listChildren 24 = .ok (.iload 4, 2) := by decide +kernel
theorem d_Ns_listChildren_26 : decode b_Ns_listChildren 26 = .ok (.aaload, 1) := by decide +kernel
theorem d_Ns_listChildren_27 : decode b_Ns_listChildren 27 = .ok (.getfield 54, 3) := by decide +kernel
theorem d_Ns_listChildren_30 : decode b_Ns_listChildren 30 = .ok (.aload_n 1, 1) := by decide +kernel
theorem d_Ns_listChildren_31 : decode b_Ns_listChildren 31 = .ok (.if_acmp .ne 73, 3) := by decide +kernel
theorem d_Ns_listChildren_104 : decode b_Ns_listChildren 104 = .ok (.iinc 4 1, 3) := by decide +kernel
theorem d_Ns_listChildren_107 : decode b_Ns_listChildren 107 = .ok (.goto (-102), 3) := by decide +kernel
theorem d_Ns_listChildren_110 : decode b_Ns_listChildren 110 = .ok (.iload_n 3, 1) := by decide +kernel
theorem d_Ns_listChildren_111 : decode b_Ns_listChildren 111 = .ok (.ireturn, 1) := by decide +kernel
theorem d_Ns_putInOrder_0 : decode b_Ns_putInOrder 0 = .ok (.aload_n 0, 1) := by decide +kernel
theorem d_Ns_putInOrder_1 : decode b_Ns_putInOrder 1 = .ok (.getfield 17, 3) := by decide +kernel
theorem d_Ns_putInOrder_4 : decode b_Ns_putInOrder 4 = .ok (.iconst 0, 1) := by decide +kernel
theorem d_Ns_putInOrder_5 : decode b_Ns_putInOrder 5 = .ok (.aload_n 0, 1) := by decide +kernel
theorem d_Ns_putInOrder_6 : decode b_Ns_putInOrder 6 = .ok (.getfield 11, 3) := by decide +kernel
theorem d_Ns_putInOrder_9 : decode b_Ns_putInOrder 9 = .ok (.iconst 0, 1) := by decide +kernel
theorem d_Ns_putInOrder_10 : decode b_Ns_putInOrder 10 = .ok (.aaload, 1) := by decide +kernel
theorem d_Ns_putInOrder_11 : decode b_Ns_putInOrder 11 = .ok (.aastore, 1) := by decide +kernel
theorem d_Ns_putInOrder_12 : decode b_Ns_putInOrder 12 = .ok (.iconst 1, 1) := by decide +kernel
theorem d_Ns_putInOrder_13 : decode b_Ns_putInOrder 13 = .ok (.istore_n 1, 1) := by decide +kernel
theorem d_Ns_putInOrder_14 : decode b_Ns_putInOrder 14 = .ok (.iconst 0, 1) := by decide +kernel
theorem d_Ns_putInOrder_15 : decode b_Ns_putInOrder 15 = .ok (.istore_n 2, 1) := by decide +kernel
theorem d_Ns_putInOrder_16 : decode b_Ns_putInOrder 16 = .ok (.iload_n 2, 1) := by decide +kernel
theorem d_Ns_putInOrder_17 : decode b_Ns_putInOrder 17 = .ok (.iload_n 1, 1) := by decide +kernel
theorem d_Ns_putInOrder_18 : decode b_Ns_putInOrder 18 = .ok (.if_icmp .ge 39, 3) := by decide +kernel
theorem d_Ns_putInOrder_21 : decode b_Ns_putInOrder 21 = .ok (.iload_n 2, 1) := by decide +kernel
theorem d_Ns_putInOrder_22 : decode b_Ns_putInOrder 22 = .ok (.bipush 30, 2) := by decide +kernel
theorem d_Ns_putInOrder_24 : decode b_Ns_putInOrder 24 = .ok (.if_icmp .ge 33, 3) := by decide +kernel
theorem d_Ns_putInOrder_27 : decode b_Ns_putInOrder 27 = .ok (.aload_n 0, 1) := by decide +kernel
theorem d_Ns_putInOrder_28 : decode b_Ns_putInOrder 28 = .ok (.getfield 17, 3) := by decide +kernel
theorem d_Ns_putInOrder_31 : decode b_Ns_putInOrder 31 = .ok (.iload_n 2, 1) := by decide +kernel
theorem d_Ns_putInOrder_32 : decode b_Ns_putInOrder 32 = .ok (.aaload, 1) := by decide +kernel
theorem d_Ns_putInOrder_33 : decode b_Ns_putInOrder 33 = .ok (.getfield 58, 3) := by decide +kernel
theorem d_Ns_putInOrder_36 : decode b_Ns_putInOrder 36 = .ok (.ifCond .eq 15, 3) := by decide +kernel
theorem d_Ns_putInOrder_39 : decode b_Ns_putInOrder 39 = .ok (.aload_n 0, 1) := by decide +kernel
theorem d_Ns_putInOrder_40 : decode b_Ns_putInOrder 40 = .ok (.aload_n 0, 1) := by decide +kernel
theorem d_Ns_putInOrder_41 : decode b_Ns_putInOrder 41 = .ok (.getfield 17, 3) := by decide +kernel
theorem d_Ns_putInOrder_44 : decode b_Ns_putInOrder 44 = .ok (.iload_n 2, 1) := by decide +kernel
theorem d_Ns_putInOrder_45 : decode b_Ns_putInOrder 45 = .ok (.aaload, 1) := by decide +kernel
theorem d_Ns_putInOrder_46 : decode b_Ns_putInOrder 46 = .ok (.iload_n 1, 1) := by decide +kernel
theorem d_Ns_putInOrder_47 : decode b_Ns_putInOrder 47 = .ok (.invokevirtual 86, 3) := by decide +kernel
theorem d_Ns_putInOrder_50 : decode b_Ns_putInOrder 50 = .ok (.istore_n 1, 1) := by decide +kernel
theorem d_Ns_putInOrder_51 : decode b_Ns_putInOrder 51 = .ok (.iinc 2 1, 3) := by decide +kernel
theorem d_Ns_putInOrder_54 : decode b_Ns_putInOrder 54 = .ok (.goto (-38), 3) := by decide +kernel
theorem d_Ns_putInOrder_57 : decode b_Ns_putInOrder 57 = .ok (.return_, 1) := by decide +kernel
set_option maxHeartbeats 4000000 in
set_option maxRecDepth 100000 in
theorem c_Writer_place (l : Launch) (D : va_G) (t : Nat → ClassId) (G : hG) (ak av : Nat → Nat) (h : hM) (wr ns sl od rt : Nat) (g : Nat → Option Nat) (sc np fi : Int32) (f_ns : h ns = some (.inr (2, [.ref sl, .ref od, .int 1, .int 1]))) (f_od : h od = some (.inl ((t 4), 30, .inr (.inr (.inr (.inr g)))))) (f_rt : h rt = some (.inr (1, [.int 0, .null, .int 1, .long 0, .int 0, .int 0, .int 0, .int 0, .int 0, .int sc, .int np]))) (hg0 : g 0 = some rt) : Met l y_Wr_placeDirectories (.code y_Wr_placeDirectories b_Wr_placeDirectories 5 (some .int) :: lw_g) { frames := 0, cells := 0, slots := 0, locals := 0 } (hP (kE D t G ak av) D vwCl G h [.ref wr, .ref ns, .int fi]) (hQi D vwCl G (fun r h' => r = 0 + 1 ∧ kp [rt] h h' ∧ h' rt = some (.inr (1, [.int 0, .null, .int 1, .long 0, .int 0, .int 0, .int 0, .int 0, .int 0, .int (fi + 0), .int np])))) 0 0 G.P := by
  refine Met.ofW (cc := b_Wr_placeDirectories) (maxL := 5) (ret := (some .int)) (by decide) rfl ?_
  intro p e s m args below meth c s₁ Bd hml hv
  obtain ⟨ha, hE, hH⟩ := hv
  have hx := Bd.exec
  have hb := Bd.bytes
  have hr := Bd.returns
  have hts : ∀ w ∈ lw_g, w.before args s = true := fun w hw => atoms_spec (ws := (.code y_Wr_placeDirectories b_Wr_placeDirectories 5 (some .int) :: lw_g)) Bd.pre w (List.mem_cons_of_mem _ hw)
  have hown : s.vm.findClass R_Wr = some m.cls := findClass_of_methodNamed Bd.named
  have hlocks := Bd.notSynchronized
  have hK := hE.1
  have hH0 := hH
  have hLo : hLc G.P [] := hLc_nil
  have hz : s.heap.size ≤ s.heap.size := Nat.le_refl _
  have hkp : kp [rt] h h := kp_rf
  have hl := lv_entry [.ref wr, .ref ns, .int fi] (n := 5) (Nat.le_of_ble_eq_true rfl)
  rw [show entryFrame m args 5 = F0 m 0 ((lg_sl [.ref wr, .ref ns, .int fi] ++ List.replicate (5 - (lg_sl [.ref wr, .ref ns, .int fi]).length) Slot.unset).toArray) [] from (by rw [ha]; exact lg_entry_eq m [.ref wr, .ref ns, .int fi] 5)]
  generalize (lg_sl [.ref wr, .ref ns, .int fi] ++ List.replicate (5 - (lg_sl [.ref wr, .ref ns, .int fi]).length) Slot.unset).toArray = ls at hl ⊢
  have hl : lv_has ls 5 [(0, .ref wr), (1, .ref ns), (2, .int fi)] := hl
  refine lv_iconst (v := 0) hx hb d_Wr_placeDirectories_0 (by decide) ?_
  refine lv_istore_n (lv' := [(3, .int 0), (0, .ref wr), (1, .ref ns), (2, .int fi)]) hx hb d_Wr_placeDirectories_1 rfl hl (by decide) rfl (fun ls hl => ?_)
  refine lv_iconst (v := 0) hx hb d_Wr_placeDirectories_2 (by decide) ?_
  refine lv_istore (lv' := [(4, .int 0), (3, .int 0), (0, .ref wr), (1, .ref ns), (2, .int fi)]) hx hb d_Wr_placeDirectories_3 hl (by decide) rfl (fun ls hl => ?_)
  refine lv_iload hx hb d_Wr_placeDirectories_5 (lv_at hl 0 rfl) ?_
  refine lv_aload_n hx hb d_Wr_placeDirectories_7 rfl (lv_at hl 3 rfl) ?_
  refine hm_get (ci := 2) (v := .int 1) (C := R_Ns) (T := F_Ns) (N := 4) hx hb hts ig_Ns hown hK hH f_ns rfl 2 (by decide) (hts _ mw_180) (fun _ h9 => h9) rfl d_Wr_placeDirectories_8 ?_
  refine lv_icmp_ge (tgt := 49) hx hb d_Wr_placeDirectories_11 (by decide) (fun hc1 => absurd hc1 (by decide)) (fun hc1 => ?_)
  refine lv_aload_n hx hb d_Wr_placeDirectories_14 rfl (lv_at hl 3 rfl) ?_
  refine hm_get (ci := 2) (v := .ref od) (C := R_Ns) (T := F_Ns) (N := 4) hx hb hts ig_Ns hown hK hH f_ns rfl 1 (by decide) (hts _ mw_181) (fun _ h9 => h9) rfl d_Wr_placeDirectories_15 ?_
  refine lv_iload hx hb d_Wr_placeDirectories_18 (lv_at hl 0 rfl) ?_
  refine hj_aald (v := .ref rt) hx hb hK hH 4 f_od (C := R_No) rfl 0 (by decide) (by decide) (by decide) (by rw [hg0]; rfl) d_Wr_placeDirectories_20 ?_
  refine hm_get (ci := 1) (v := .int 1) (C := R_No) (T := F_No) (N := 11) hx hb hts ig_No hown hK hH f_rt rfl 2 (by decide) (hts _ mw_182) (fun _ h9 => h9) rfl d_Wr_placeDirectories_21 ?_
  refine lv_if_eq (tgt := 43) hx hb d_Wr_placeDirectories_24 (by decide) (fun hc2 => absurd hc2 (by decide)) (fun hc2 => ?_)
  refine lv_aload_n hx hb d_Wr_placeDirectories_27 rfl (lv_at hl 3 rfl) ?_
  refine hm_get (ci := 2) (v := .ref od) (C := R_Ns) (T := F_Ns) (N := 4) hx hb hts ig_Ns hown hK hH f_ns rfl 1 (by decide) (hts _ mw_181) (fun _ h9 => h9) rfl d_Wr_placeDirectories_28 ?_
  refine lv_iload hx hb d_Wr_placeDirectories_31 (lv_at hl 0 rfl) ?_
  refine hj_aald (v := .ref rt) hx hb hK hH 4 f_od (C := R_No) rfl 0 (by decide) (by decide) (by decide) (by rw [hg0]; rfl) d_Wr_placeDirectories_33 ?_
  refine lv_iload_n hx hb d_Wr_placeDirectories_34 rfl (lv_at hl 4 rfl) ?_
  refine lv_iload_n hx hb d_Wr_placeDirectories_35 rfl (lv_at hl 1 rfl) ?_
  refine lv_iadd hx hb d_Wr_placeDirectories_36 ?_
  refine hm_put (ci := 1) (v := .int (fi + 0)) (ty := .int) (C := R_No) (T := F_No) (N := 11) hx hb hts ig_No t_No tk_No nm_No hown hK hH hLo f_rt rfl 9 (by decide) (hts _ mw_183) (fun _ h9 => h9) rfl (by decide +kernel) rfl rfl (Nat.le_of_ble_eq_true rfl) d_Wr_placeDirectories_37 (fun H3 locs hH z4 hLo => ?_)
  have hz : s.heap.size ≤ H3.size := by rw [z4]; exact hz
  obtain ⟨h5, e6⟩ : ∃ z, z = hu h rt (.inr (1, [.int 0, .null, .int 1, .long 0, .int 0, .int 0, .int 0, .int 0, .int 0, .int (fi + 0), .int np])) := ⟨_, rfl⟩
  have hH : hm D vwCl G h5 H3 := by rw [e6]; exact hH
  have f_ns : h5 ns = some (.inr (2, [.ref sl, .ref od, .int 1, .int 1])) := by rw [e6, hu_n (h_neC f_ns f_rt (by decide))]; exact f_ns
  have f_od : h5 od = some (.inl ((t 4), 30, .inr (.inr (.inr (.inr g))))) := by rw [e6, hu_n (h_neA f_od f_rt)]; exact f_od
  have f_rt : h5 rt = some (.inr (1, [.int 0, .null, .int 1, .long 0, .int 0, .int 0, .int 0, .int 0, .int 0, .int (fi + 0), .int np])) := by rw [e6]; exact hu_s _ _ _
  have hkp : kp [rt] h h5 := by rw [e6]; exact kp_put hkp (by simp)
  refine lv_iinc (v := 0 + 1) (lv' := [(3, .int (0 + 1)), (4, .int 0), (0, .ref wr), (1, .ref ns), (2, .int fi)]) hx hb d_Wr_placeDirectories_40 hl (k := 1) rfl (by rfl) (by decide) rfl (fun ls hl => ?_)
  refine lv_iinc (v := 0 + 1) (lv' := [(4, .int (0 + 1)), (3, .int (0 + 1)), (0, .ref wr), (1, .ref ns), (2, .int fi)]) hx hb d_Wr_placeDirectories_43 hl (k := 1) rfl (by rfl) (by decide) rfl (fun ls hl => ?_)
  refine lv_goto (tgt := 5) hx hb d_Wr_placeDirectories_46 (by decide) ?_
  refine lv_iload hx hb d_Wr_placeDirectories_5 (lv_at hl 0 rfl) ?_
  refine lv_aload_n hx hb d_Wr_placeDirectories_7 rfl (lv_at hl 3 rfl) ?_
  refine hm_get (ci := 2) (v := .int 1) (C := R_Ns) (T := F_Ns) (N := 4) hx hb hts ig_Ns hown hK hH f_ns rfl 2 (by decide) (hts _ mw_180) (fun _ h9 => h9) rfl d_Wr_placeDirectories_8 ?_
  refine lv_icmp_ge (tgt := 49) hx hb d_Wr_placeDirectories_11 (by decide) (fun hc7 => ?_) (fun hc7 => absurd (by decide) hc7)
  refine lv_iload_n hx hb d_Wr_placeDirectories_49 rfl (lv_at hl 1 rfl) ?_
  exact W.iret (v := 0 + 1) hx hb hr (fun t9 ht hW => ⟨0 + 1, h5, rfl, ⟨rfl, hkp, f_rt⟩, by rw [ht]; exact hH, by rw [ht]; exact hz⟩) hLo d_Wr_placeDirectories_50

set_option maxHeartbeats 4000000 in
set_option maxRecDepth 100000 in
theorem c_Nodes_children (l : Launch) (D : va_G) (t : Nat → ClassId) (G : hG) (ak av : Nat → Nat) (h : hM) (ns sl od rt : Nat) (fs : Nat → Option Nat) (sc np : Int32) (f_ns : h ns = some (.inr (2, [.ref sl, .ref od, .int 1, .int 1]))) (f_sl : h sl = some (.inl ((t 4), 30, .inr (.inr (.inr (.inr fs)))))) (f_rt : h rt = some (.inr (1, [.int 0, .null, .int 1, .long 0, .int 0, .int 0, .int 0, .int 0, .int 0, .int sc, .int np]))) (hf0 : fs 0 = some rt) : Met l y_Ns_listChildren (.code y_Ns_listChildren b_Ns_listChildren 6 (some .int) :: lw_g) { frames := 0, cells := 0, slots := 0, locals := 0 } (hP (kE D t G ak av) D vwCl G h [.ref ns, .ref rt, .int 1]) (hQi D vwCl G (fun r h' => r = 1 ∧ h = h')) 0 0 G.P := by
  refine Met.ofW (cc := b_Ns_listChildren) (maxL := 6) (ret := (some .int)) (by decide) rfl ?_
  intro p e s m args below meth c s₁ Bd hml hv
  obtain ⟨ha, hE, hH⟩ := hv
  have hx := Bd.exec
  have hb := Bd.bytes
  have hr := Bd.returns
  have hts : ∀ w ∈ lw_g, w.before args s = true := fun w hw => atoms_spec (ws := (.code y_Ns_listChildren b_Ns_listChildren 6 (some .int) :: lw_g)) Bd.pre w (List.mem_cons_of_mem _ hw)
  have hown : s.vm.findClass R_Ns = some m.cls := findClass_of_methodNamed Bd.named
  have hlocks := Bd.notSynchronized
  have hK := hE.1
  have hH0 := hH
  have hLo : hLc G.P [] := hLc_nil
  have hz : s.heap.size ≤ s.heap.size := Nat.le_refl _
  have hkp : kp [] h h := kp_rf
  have hl := lv_entry [.ref ns, .ref rt, .int 1] (n := 6) (Nat.le_of_ble_eq_true rfl)
  rw [show entryFrame m args 6 = F0 m 0 ((lg_sl [.ref ns, .ref rt, .int 1] ++ List.replicate (6 - (lg_sl [.ref ns, .ref rt, .int 1]).length) Slot.unset).toArray) [] from (by rw [ha]; exact lg_entry_eq m [.ref ns, .ref rt, .int 1] 6)]
  generalize (lg_sl [.ref ns, .ref rt, .int 1] ++ List.replicate (6 - (lg_sl [.ref ns, .ref rt, .int 1]).length) Slot.unset).toArray = ls at hl ⊢
  have hl : lv_has ls 6 [(0, .ref ns), (1, .ref rt), (2, .int 1)] := hl
  refine lv_iload_n hx hb d_Ns_listChildren_0 rfl (lv_at hl 2 rfl) ?_
  refine lv_istore_n (lv' := [(3, .int 1), (0, .ref ns), (1, .ref rt), (2, .int 1)]) hx hb d_Ns_listChildren_1 rfl hl (by decide) rfl (fun ls hl => ?_)
  refine lv_iconst (v := 0) hx hb d_Ns_listChildren_2 (by decide) ?_
  refine lv_istore (lv' := [(4, .int 0), (3, .int 1), (0, .ref ns), (1, .ref rt), (2, .int 1)]) hx hb d_Ns_listChildren_3 hl (by decide) rfl (fun ls hl => ?_)
  refine lv_iload hx hb d_Ns_listChildren_5 (lv_at hl 0 rfl) ?_
  refine lv_aload_n hx hb d_Ns_listChildren_7 rfl (lv_at hl 2 rfl) ?_
  refine hm_get (ci := 2) (v := .int 1) (C := R_Ns) (T := F_Ns) (N := 4) hx hb hts ig_Ns hown hK hH f_ns rfl 2 (by decide) (hts _ mw_37) (fun _ h9 => h9) rfl d_Ns_listChildren_8 ?_
  refine lv_icmp_ge (tgt := 110) hx hb d_Ns_listChildren_11 (by decide) (fun hc1 => absurd hc1 (by decide)) (fun hc1 => ?_)
  refine lv_iload_n hx hb d_Ns_listChildren_14 rfl (lv_at hl 1 rfl) ?_
  refine lv_bipush (v := 30) hx hb d_Ns_listChildren_15 (by decide) ?_
  refine lv_icmp_ge (tgt := 110) hx hb d_Ns_listChildren_17 (by decide) (fun hc2 => absurd hc2 (by decide)) (fun hc2 => ?_)
  refine lv_aload_n hx hb d_Ns_listChildren_20 rfl (lv_at hl 2 rfl) ?_
  refine hm_get (ci := 2) (v := .ref sl) (C := R_Ns) (T := F_Ns) (N := 4) hx hb hts ig_Ns hown hK hH f_ns rfl 0 (by decide) (hts _ mw_35) (fun _ h9 => h9) rfl d_Ns_listChildren_21 ?_
  refine lv_iload hx hb d_Ns_listChildren_24 (lv_at hl 0 rfl) ?_
  refine hj_aald (v := .ref rt) hx hb hK hH 4 f_sl (C := R_No) rfl 0 (by decide) (by decide) (by decide) (by rw [hf0]; rfl) d_Ns_listChildren_26 ?_
  refine hm_get (ci := 1) (v := .null) (C := R_No) (T := F_No) (N := 11) hx hb hts ig_No hown hK hH f_rt rfl 1 (by decide) (hts _ mw_184) (fun _ h9 => h9) rfl d_Ns_listChildren_27 ?_
  refine lv_aload_n hx hb d_Ns_listChildren_30 rfl (lv_at hl 3 rfl) ?_
  refine lv_acmp_ne (rx := none) (ry := some rt) (tgt := 104) hx hb d_Ns_listChildren_31 (by decide) (fun hc3 => ?_) (fun hc3 => absurd hc3 (by simp))
  refine lv_iinc (v := 0 + 1) (lv' := [(4, .int (0 + 1)), (3, .int 1), (0, .ref ns), (1, .ref rt), (2, .int 1)]) hx hb d_Ns_listChildren_104 hl (k := 0) rfl (by rfl) (by decide) rfl (fun ls hl => ?_)
  refine lv_goto (tgt := 5) hx hb d_Ns_listChildren_107 (by decide) ?_
  refine lv_iload hx hb d_Ns_listChildren_5 (lv_at hl 0 rfl) ?_
  refine lv_aload_n hx hb d_Ns_listChildren_7 rfl (lv_at hl 2 rfl) ?_
  refine hm_get (ci := 2) (v := .int 1) (C := R_Ns) (T := F_Ns) (N := 4) hx hb hts ig_Ns hown hK hH f_ns rfl 2 (by decide) (hts _ mw_37) (fun _ h9 => h9) rfl d_Ns_listChildren_8 ?_
  refine lv_icmp_ge (tgt := 110) hx hb d_Ns_listChildren_11 (by decide) (fun hc4 => ?_) (fun hc4 => absurd (by decide) hc4)
  refine lv_iload_n hx hb d_Ns_listChildren_110 rfl (lv_at hl 1 rfl) ?_
  exact W.iret (v := 1) hx hb hr (fun t9 ht hW => ⟨1, h, rfl, ⟨rfl, rfl⟩, by rw [ht]; exact hH, by rw [ht]; exact hz⟩) hLo d_Ns_listChildren_111

set_option maxHeartbeats 4000000 in
set_option maxRecDepth 100000 in
theorem c_Nodes_order (l : Launch) (D : va_G) (t : Nat → ClassId) (G : hG) (ak av : Nat → Nat) (h : hM) (ns sl od rt : Nat) (fs g : Nat → Option Nat) (sc np : Int32) (f_ns : h ns = some (.inr (2, [.ref sl, .ref od, .int 1, .int 1]))) (f_sl : h sl = some (.inl ((t 4), 30, .inr (.inr (.inr (.inr fs)))))) (f_od : h od = some (.inl ((t 4), 30, .inr (.inr (.inr (.inr g)))))) (f_rt : h rt = some (.inr (1, [.int 0, .null, .int 1, .long 0, .int 0, .int 0, .int 0, .int 0, .int 0, .int sc, .int np]))) (hf0 : fs 0 = some rt) (ne_sl_od : sl ≠ od) : Met l y_Ns_putInOrder (.code y_Ns_putInOrder b_Ns_putInOrder 3 none :: lw_g) { frames := 1, cells := 0, slots := 0, locals := 25 } (hP (kE D t G ak av) D vwCl G h [.ref ns]) (hQv D vwCl G (fun h' => kp [od] h h' ∧ h' od = some (.inl ((t 4), 30, .inr (.inr (.inr (.inr (va_up g 0 (some rt))))))))) 0 0 G.P := by
  refine Met.ofW (cc := b_Ns_putInOrder) (maxL := 3) (ret := none) (by decide) rfl ?_
  intro p e s m args below meth c s₁ Bd hml hv
  obtain ⟨ha, hE, hH⟩ := hv
  have hx := Bd.exec
  have hb := Bd.bytes
  have hr := Bd.returns
  have hts : ∀ w ∈ lw_g, w.before args s = true := fun w hw => atoms_spec (ws := (.code y_Ns_putInOrder b_Ns_putInOrder 3 none :: lw_g)) Bd.pre w (List.mem_cons_of_mem _ hw)
  have hown : s.vm.findClass R_Ns = some m.cls := findClass_of_methodNamed Bd.named
  have hlocks := Bd.notSynchronized
  have hK := hE.1
  have hH0 := hH
  have hLo : hLc G.P [] := hLc_nil
  have hz : s.heap.size ≤ s.heap.size := Nat.le_refl _
  have hkp : kp [od] h h := kp_rf
  have hl := lv_entry [.ref ns] (n := 3) (Nat.le_of_ble_eq_true rfl)
  rw [show entryFrame m args 3 = F0 m 0 ((lg_sl [.ref ns] ++ List.replicate (3 - (lg_sl [.ref ns]).length) Slot.unset).toArray) [] from (by rw [ha]; exact lg_entry_eq m [.ref ns] 3)]
  generalize (lg_sl [.ref ns] ++ List.replicate (3 - (lg_sl [.ref ns]).length) Slot.unset).toArray = ls at hl ⊢
  have hl : lv_has ls 3 [(0, .ref ns)] := hl
  refine lv_aload_n hx hb d_Ns_putInOrder_0 rfl (lv_at hl 0 rfl) ?_
  refine hm_get (ci := 2) (v := .ref od) (C := R_Ns) (T := F_Ns) (N := 4) hx hb hts ig_Ns hown hK hH f_ns rfl 1 (by decide) (hts _ mw_36) (fun _ h9 => h9) rfl d_Ns_putInOrder_1 ?_
  refine lv_iconst (v := 0) hx hb d_Ns_putInOrder_4 (by decide) ?_
  refine lv_aload_n hx hb d_Ns_putInOrder_5 rfl (lv_at hl 0 rfl) ?_
  refine hm_get (ci := 2) (v := .ref sl) (C := R_Ns) (T := F_Ns) (N := 4) hx hb hts ig_Ns hown hK hH f_ns rfl 0 (by decide) (hts _ mw_35) (fun _ h9 => h9) rfl d_Ns_putInOrder_6 ?_
  refine lv_iconst (v := 0) hx hb d_Ns_putInOrder_9 (by decide) ?_
  refine hj_aald (v := .ref rt) hx hb hK hH 4 f_sl (C := R_No) rfl 0 (by decide) (by decide) (by decide) (by rw [hf0]; rfl) d_Ns_putInOrder_10 ?_
  refine hj_aast hx hb hK hH hLo 4 1 f_od rfl f_rt rfl 0 (by decide) (by decide) (by decide) d_Ns_putInOrder_11 (fun H1 locs hH z2 hLo => ?_)
  have hz : s.heap.size ≤ H1.size := by rw [z2]; exact hz
  obtain ⟨h3, e4⟩ : ∃ z, z = hu h od (.inl ((t 4), 30, .inr (.inr (.inr (.inr (va_up g 0 (some rt))))))) := ⟨_, rfl⟩
  have hH : hm D vwCl G h3 H1 := by rw [e4]; exact hH
  have f_ns : h3 ns = some (.inr (2, [.ref sl, .ref od, .int 1, .int 1])) := by rw [e4, hu_n (Ne.symm (h_neA f_od f_ns))]; exact f_ns
  have f_sl : h3 sl = some (.inl ((t 4), 30, .inr (.inr (.inr (.inr fs))))) := by rw [e4, hu_n ne_sl_od]; exact f_sl
  have f_rt : h3 rt = some (.inr (1, [.int 0, .null, .int 1, .long 0, .int 0, .int 0, .int 0, .int 0, .int 0, .int sc, .int np])) := by rw [e4, hu_n (Ne.symm (h_neA f_od f_rt))]; exact f_rt
  have f_od : h3 od = some (.inl ((t 4), 30, .inr (.inr (.inr (.inr (va_up g 0 (some rt))))))) := by rw [e4]; exact hu_s _ _ _
  have hkp : kp [od] h h3 := by rw [e4]; exact kp_put hkp (by simp)
  refine lv_iconst (v := 1) hx hb d_Ns_putInOrder_12 (by decide) ?_
  refine lv_istore_n (lv' := [(1, .int 1), (0, .ref ns)]) hx hb d_Ns_putInOrder_13 rfl hl (by decide) rfl (fun ls hl => ?_)
  refine lv_iconst (v := 0) hx hb d_Ns_putInOrder_14 (by decide) ?_
  refine lv_istore_n (lv' := [(2, .int 0), (1, .int 1), (0, .ref ns)]) hx hb d_Ns_putInOrder_15 rfl hl (by decide) rfl (fun ls hl => ?_)
  refine lv_iload_n hx hb d_Ns_putInOrder_16 rfl (lv_at hl 0 rfl) ?_
  refine lv_iload_n hx hb d_Ns_putInOrder_17 rfl (lv_at hl 1 rfl) ?_
  refine lv_icmp_ge (tgt := 57) hx hb d_Ns_putInOrder_18 (by decide) (fun hc5 => absurd hc5 (by decide)) (fun hc5 => ?_)
  refine lv_iload_n hx hb d_Ns_putInOrder_21 rfl (lv_at hl 0 rfl) ?_
  refine lv_bipush (v := 30) hx hb d_Ns_putInOrder_22 (by decide) ?_
  refine lv_icmp_ge (tgt := 57) hx hb d_Ns_putInOrder_24 (by decide) (fun hc6 => absurd hc6 (by decide)) (fun hc6 => ?_)
  refine lv_aload_n hx hb d_Ns_putInOrder_27 rfl (lv_at hl 2 rfl) ?_
  refine hm_get (ci := 2) (v := .ref od) (C := R_Ns) (T := F_Ns) (N := 4) hx hb hts ig_Ns hown hK hH f_ns rfl 1 (by decide) (hts _ mw_36) (fun _ h9 => h9) rfl d_Ns_putInOrder_28 ?_
  refine lv_iload_n hx hb d_Ns_putInOrder_31 rfl (lv_at hl 0 rfl) ?_
  refine hj_aald (v := .ref rt) hx hb hK hH 4 f_od (C := R_No) rfl 0 (by decide) (by decide) (by decide) (by rw [va_up_self]; rfl) d_Ns_putInOrder_32 ?_
  refine hm_get (ci := 1) (v := .int 1) (C := R_No) (T := F_No) (N := 11) hx hb hts ig_No hown hK hH f_rt rfl 2 (by decide) (hts _ mw_185) (fun _ h9 => h9) rfl d_Ns_putInOrder_33 ?_
  refine lv_if_eq (tgt := 51) hx hb d_Ns_putInOrder_36 (by decide) (fun hc7 => absurd hc7 (by decide)) (fun hc7 => ?_)
  refine lv_aload_n hx hb d_Ns_putInOrder_39 rfl (lv_at hl 2 rfl) ?_
  refine lv_aload_n hx hb d_Ns_putInOrder_40 rfl (lv_at hl 2 rfl) ?_
  refine hm_get (ci := 2) (v := .ref od) (C := R_Ns) (T := F_Ns) (N := 4) hx hb hts ig_Ns hown hK hH f_ns rfl 1 (by decide) (hts _ mw_36) (fun _ h9 => h9) rfl d_Ns_putInOrder_41 ?_
  refine lv_iload_n hx hb d_Ns_putInOrder_44 rfl (lv_at hl 0 rfl) ?_
  refine hj_aald (v := .ref rt) hx hb hK hH 4 f_od (C := R_No) rfl 0 (by decide) (by decide) (by decide) (by rw [va_up_self]; rfl) d_Ns_putInOrder_45 ?_
  refine lv_iload_n hx hb d_Ns_putInOrder_46 rfl (lv_at hl 1 rfl) ?_
  refine hm_calli (va_runV (As := [.ref rt, .int 1]) (b := ns) (rest := []) ⟨hx, hb, hml, hown, hts⟩ (c_Nodes_children l D t G ak av h3 ns sl od rt fs sc np f_ns f_sl f_rt hf0) ⟨cw9B 2 hts mw_186 mw_188 mw_187 rfl rfl (by decide +kernel) ⟨Nat.le_of_ble_eq_true rfl, Nat.le_of_ble_eq_true rfl⟩, hts _ mw_189, hts _ mw_190⟩ (hP_V (q := (R_Ns, F_Ns, 4)) kE_ok hE hK hH f_ns rfl) rfl rfl hl.1 rfl (lv_room (Nat.le_of_ble_eq_true rfl)) d_Ns_putInOrder_47 ⟨Nat.le_of_ble_eq_true rfl, Nat.le_of_ble_eq_true rfl⟩) hLo (fun r8 h9 H10 locs hp12 hH z11 hLo => ?_)
  have hz : s.heap.size ≤ H10.size := Nat.le_trans hz z11
  obtain ⟨rfl, rfl⟩ := hp12
  refine lv_istore_n (lv' := [(1, .int 1), (2, .int 0), (0, .ref ns)]) hx hb d_Ns_putInOrder_50 rfl hl (by decide) rfl (fun ls hl => ?_)
  refine lv_iinc (v := 0 + 1) (lv' := [(2, .int (0 + 1)), (1, .int 1), (0, .ref ns)]) hx hb d_Ns_putInOrder_51 hl (k := 1) rfl (by rfl) (by decide) rfl (fun ls hl => ?_)
  refine lv_goto (tgt := 16) hx hb d_Ns_putInOrder_54 (by decide) ?_
  refine lv_iload_n hx hb d_Ns_putInOrder_16 rfl (lv_at hl 0 rfl) ?_
  refine lv_iload_n hx hb d_Ns_putInOrder_17 rfl (lv_at hl 1 rfl) ?_
  refine lv_icmp_ge (tgt := 57) hx hb d_Ns_putInOrder_18 (by decide) (fun hc13 => ?_) (fun hc13 => absurd (by decide) hc13)
  exact W.vret hx hb hr (fun t9 ht hW => ⟨h3, rfl, ⟨hkp, f_od⟩, by rw [ht]; exact hH, by rw [ht]; exact hz⟩) hLo d_Ns_putInOrder_57
