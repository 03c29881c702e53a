set_option maxRecDepth 100000 in
theorem mw_66 : Cond.code y_Pg_put b_Pg_put 3 none ∈ lw_g := lw_gin (List.mem_append_right _ (List.mem_of_getElem? (i := 428) rfl)) (by decide +kernel)
set_option maxRecDepth 100000 in
theorem mw_67 : Cond.methodLink R_Pg 31 y_Pg_put ∈ lw_g := lw_gin (List.mem_append_right _ (List.mem_of_getElem? (i := 425) rfl)) (by decide +kernel)
set_option maxRecDepth 100000 in
theorem mw_68 : Cond.instanceMethod y_Pg_put ∈ lw_g := lw_gin (List.mem_append_right _ (List.mem_of_getElem? (i := 426) rfl)) (by decide +kernel)
set_option maxRecDepth 100000 in
theorem mw_69 : Cond.selects R_Pg y_Pg_put y_Pg_put ∈ lw_g := lw_gin (List.mem_append_right _ (List.mem_of_getElem? (i := 427) rfl)) (by decide +kernel)
theorem d_Pg_put_0 : decode b_Pg_put 0 = .ok (.iload_n 1, 1) := by decide +kernel
theorem d_Pg_put_1 : decode b_Pg_put 1 = .ok (.ifCond .lt 20, 3) := by decide +kernel
theorem d_Pg_put_21 : decode b_Pg_put 21 = .ok (.return_, 1) := by decide +kernel
theorem d_Pg_put_4 : decode b_Pg_put 4 = .ok (.iload_n 1, 1) := by decide +kernel
theorem d_Pg_put_5 : decode b_Pg_put 5 = .ok (.aload_n 0, 1) := by decide +kernel
theorem d_Pg_put_6 : decode b_Pg_put 6 = .ok (.getfield 9, 3) := by decide +kernel
theorem d_Pg_put_9 : decode b_Pg_put 9 = .ok (.arraylength, 1) := by decide +kernel
theorem d_Pg_put_10 : decode b_Pg_put 10 = .ok (.if_icmp .ge 11, 3) := by decide +kernel
theorem d_Pg_put_13 : decode b_Pg_put 13 = .ok (.aload_n 0, 1) := by decide +kernel
theorem d_Pg_put_14 : decode b_Pg_put 14 = .ok (.getfield 9, 3) := by decide +kernel
theorem d_Pg_put_17 : decode b_Pg_put 17 = .ok (.iload_n 1, 1) := by decide +kernel
theorem d_Pg_put_18 : decode b_Pg_put 18 = .ok (.iload_n 2, 1) := by decide +kernel
theorem d_Pg_put_19 : decode b_Pg_put 19 = .ok (.i2b, 1) := by decide +kernel
theorem d_Pg_put_20 : decode b_Pg_put 20 = .ok (.bastore, 1) := by decide +kernel
theorem d_Pg_putLow_0 : decode b_Pg_putLow 0 = .ok (.iconst 0, 1) := by decide +kernel
theorem d_Pg_putLow_1 : decode b_Pg_putLow 1 = .ok (.istore 4, 2) := by decide +kernel
theorem d_Pg_putLow_3 : decode b_Pg_putLow 3 = .ok (.iload 4, 2) := by decide +kernel
theorem d_Pg_putLow_5 : decode b_Pg_putLow 5 = .ok (.iload_n 2, 1) := by decide +kernel
theorem d_Pg_putLow_6 : decode b_Pg_putLow 6 = .ok (.if_icmp .ge 24, 3) := by decide +kernel
theorem d_Pg_putLow_30 : decode b_Pg_putLow 30 = .ok (.return_, 1) := by decide +kernel
theorem d_Pg_putLow_9 : decode b_Pg_putLow 9 = .ok (.aload_n 0, 1) := by decide +kernel
theorem d_Pg_putLow_10 : decode b_Pg_putLow 10 = .ok (.iload_n 1, 1) := by decide +kernel
theorem d_Pg_putLow_11 : decode b_Pg_putLow 11 = .ok (.iload 4, 2) := by decide +kernel
theorem d_Pg_putLow_13 : decode b_Pg_putLow 13 = .ok (.iadd, 1) := by decide +kernel
theorem d_Pg_putLow_14 : decode b_Pg_putLow 14 = .ok (.iload_n 3, 1) := by decide +kernel
theorem d_Pg_putLow_15 : decode b_Pg_putLow 15 = .ok (.bipush 8, 2) := by decide +kernel
theorem d_Pg_putLow_17 : decode b_Pg_putLow 17 = .ok (.iload 4, 2) := by decide +kernel
theorem d_Pg_putLow_19 : decode b_Pg_putLow 19 = .ok (.imul, 1) := by decide +kernel
theorem d_Pg_putLow_20 : decode b_Pg_putLow 20 = .ok (.ishr, 1) := by decide +kernel
theorem d_Pg_putLow_21 : decode b_Pg_putLow 21 = .ok (.invokevirtual 31, 3) := by decide +kernel
theorem d_Pg_putLow_24 : decode b_Pg_putLow 24 = .ok (.iinc 4 1, 3) := by decide +kernel
theorem d_Pg_putLow_27 : decode b_Pg_putLow 27 = .ok (.goto (-24), 3) := by decide +kernel
theorem d_Pg_putHigh_0 : decode b_Pg_putHigh 0 = .ok (.iconst 0, 1) := by decide +kernel
theorem d_Pg_putHigh_1 : decode b_Pg_putHigh 1 = .ok (.istore 4, 2) := by decide +kernel
theorem d_Pg_putHigh_3 : decode b_Pg_putHigh 3 = .ok (.iload 4, 2) := by decide +kernel
theorem d_Pg_putHigh_5 : decode b_Pg_putHigh 5 = .ok (.iload_n 2, 1) := by decide +kernel
theorem d_Pg_putHigh_6 : decode b_Pg_putHigh 6 = .ok (.if_icmp .ge 28, 3) := by decide +kernel
theorem d_Pg_putHigh_34 : decode b_Pg_putHigh 34 = .ok (.return_, 1) := by decide +kernel
theorem d_Pg_putHigh_9 : decode b_Pg_putHigh 9 = .ok (.aload_n 0, 1) := by decide +kernel
theorem d_Pg_putHigh_10 : decode b_Pg_putHigh 10 = .ok (.iload_n 1, 1) := by decide +kernel
theorem d_Pg_putHigh_11 : decode b_Pg_putHigh 11 = .ok (.iload_n 2, 1) := by decide +kernel
theorem d_Pg_putHigh_12 : decode b_Pg_putHigh 12 = .ok (.iadd, 1) := by decide +kernel
theorem d_Pg_putHigh_13 : decode b_Pg_putHigh 13 = .ok (.iconst 1, 1) := by decide +kernel
theorem d_Pg_putHigh_14 : decode b_Pg_putHigh 14 = .ok (.isub, 1) := by decide +kernel
theorem d_Pg_putHigh_15 : decode b_Pg_putHigh 15 = .ok (.iload 4, 2) := by decide +kernel
theorem d_Pg_putHigh_17 : decode b_Pg_putHigh 17 = .ok (.isub, 1) := by decide +kernel
theorem d_Pg_putHigh_18 : decode b_Pg_putHigh 18 = .ok (.iload_n 3, 1) := by decide +kernel
theorem d_Pg_putHigh_19 : decode b_Pg_putHigh 19 = .ok (.bipush 8, 2) := by decide +kernel
theorem d_Pg_putHigh_21 : decode b_Pg_putHigh 21 = .ok (.iload 4, 2) := by decide +kernel
theorem d_Pg_putHigh_23 : decode b_Pg_putHigh 23 = .ok (.imul, 1) := by decide +kernel
theorem d_Pg_putHigh_24 : decode b_Pg_putHigh 24 = .ok (.ishr, 1) := by decide +kernel
theorem d_Pg_putHigh_25 : decode b_Pg_putHigh 25 = .ok (.invokevirtual 31, 3) := by decide +kernel
theorem d_Pg_putHigh_28 : decode b_Pg_putHigh 28 = .ok (.iinc 4 1, 3) := by decide +kernel
theorem d_Pg_putHigh_31 : decode b_Pg_putHigh 31 = .ok (.goto (-28), 3) := by decide +kernel
theorem d_Pg_putBoth_0 : decode b_Pg_putBoth 0 = .ok (.iconst 0, 1) := by decide +kernel
theorem d_Pg_putBoth_1 : decode b_Pg_putBoth 1 = .ok (.istore 4, 2) := by decide +kernel
theorem d_Pg_putBoth_3 : decode b_Pg_putBoth 3 = .ok (.iload 4, 2) := by decide +kernel
theorem d_Pg_putBoth_5 : decode b_Pg_putBoth 5 = .ok (.iload_n 2, 1) := by decide +kernel
theorem d_Pg_putBoth_6 : decode b_Pg_putBoth 6 = .ok (.if_icmp .ge 45, 3) := by decide +kernel
theorem d_Pg_putBoth_51 : decode b_Pg_putBoth 51 = .ok (.return_, 1) := by decide +kernel
theorem d_Pg_putBoth_9 : decode b_Pg_putBoth 9 = .ok (.aload_n 0, 1) := by decide +kernel
theorem d_Pg_putBoth_10 : decode b_Pg_putBoth 10 = .ok (.iload_n 1, 1) := by decide +kernel
theorem d_Pg_putBoth_11 : decode b_Pg_putBoth 11 = .ok (.iload 4, 2) := by decide +kernel
theorem d_Pg_putBoth_13 : decode b_Pg_putBoth 13 = .ok (.iadd, 1) := by decide +kernel
theorem d_Pg_putBoth_14 : decode b_Pg_putBoth 14 = .ok (.iload_n 3, 1) := by decide +kernel
theorem d_Pg_putBoth_15 : decode b_Pg_putBoth 15 = .ok (.bipush 8, 2) := by decide +kernel
theorem d_Pg_putBoth_17 : decode b_Pg_putBoth 17 = .ok (.iload 4, 2) := by decide +kernel
theorem d_Pg_putBoth_19 : decode b_Pg_putBoth 19 = .ok (.imul, 1) := by decide +kernel
theorem d_Pg_putBoth_20 : decode b_Pg_putBoth 20 = .ok (.ishr, 1) := by decide +kernel
theorem d_Pg_putBoth_21 : decode b_Pg_putBoth 21 = .ok (.invokevirtual 31, 3) := by decide +kernel
theorem d_Pg_putBoth_24 : decode b_Pg_putBoth 24 = .ok (.aload_n 0, 1) := by decide +kernel
theorem d_Pg_putBoth_25 : decode b_Pg_putBoth 25 = .ok (.iload_n 1, 1) := by decide +kernel
theorem d_Pg_putBoth_26 : decode b_Pg_putBoth 26 = .ok (.iconst 2, 1) := by decide +kernel
theorem d_Pg_putBoth_27 : decode b_Pg_putBoth 27 = .ok (.iload_n 2, 1) := by decide +kernel
theorem d_Pg_putBoth_28 : decode b_Pg_putBoth 28 = .ok (.imul, 1) := by decide +kernel
theorem d_Pg_putBoth_29 : decode b_Pg_putBoth 29 = .ok (.iadd, 1) := by decide +kernel
theorem d_Pg_putBoth_30 : decode b_Pg_putBoth 30 = .ok (.iconst 1, 1) := by decide +kernel
theorem d_Pg_putBoth_31 : decode b_Pg_putBoth 31 = .ok (.isub, 1) := by decide +kernel
theorem d_Pg_putBoth_32 : decode b_Pg_putBoth 32 = .ok (.iload 4, 2) := by decide +kernel
theorem d_Pg_putBoth_34 : decode b_Pg_putBoth 34 = .ok (.isub, 1) := by decide +kernel
theorem d_Pg_putBoth_35 : decode b_Pg_putBoth 35 = .ok (.iload_n 3, 1) := by decide +kernel
theorem d_Pg_putBoth_36 : decode b_Pg_putBoth 36 = .ok (.bipush 8, 2) := by decide +kernel
theorem d_Pg_putBoth_38 : decode b_Pg_putBoth 38 = .ok (.iload 4, 2) := by decide +kernel
theorem d_Pg_putBoth_40 : decode b_Pg_putBoth 40 = .ok (.imul, 1) := by decide +kernel
theorem d_Pg_putBoth_41 : decode b_Pg_putBoth 41 = .ok (.ishr, 1) := by decide +kernel
theorem d_Pg_putBoth_42 : decode b_Pg_putBoth 42 = .ok (.invokevirtual 31, 3) := by decide +kernel
theorem d_Pg_putBoth_45 : decode b_Pg_putBoth 45 = .ok (.iinc 4 1, 3) := by decide +kernel
theorem d_Pg_putBoth_48 : decode b_Pg_putBoth 48 = .ok (.goto (-45), 3) := by decide +kernel
set_option maxHeartbeats 4000000 in
set_option maxRecDepth 100000 in
theorem c_Page_put (l : Launch) (D : va_G) (t : Nat → ClassId) (G : hG) (ak av : Nat → Nat) (h : hM) (h0 pb n : Nat) (at_ v : Int32) (f_h0 : h h0 = some (.inr (3, [.ref pb]))) (hpb : pgF t h pb n) (hn : n < 2 ^ 31) : Met l y_Pg_put (.code y_Pg_put b_Pg_put 3 none :: lw_g) { frames := 0, cells := 0, slots := 0, locals := 0 } (hP (kE D t G ak av) D vwCl G h [.ref h0, .int at_, .int v]) (hQv D vwCl G (fun h' => kp [pb] h h' ∧ pgF t h' pb n)) 0 0 G.P := by
  refine Met.ofW (cc := b_Pg_put) (maxL := 3) (ret := none) (by decide) rfl ?_
  intro p e s m args below meth c s₁ Bd hml hv
  obtain ⟨ha, hE, hH⟩ := hv
  have hx := Bd.exec
  have hb := Bd.bytes
  have hr := Bd.returns
  have hts : ∀ w ∈ lw_g, w.before args s = true := fun w hw => atoms_spec (ws := (.code y_Pg_put b_Pg_put 3 none :: lw_g)) Bd.pre w (List.mem_cons_of_mem _ hw)
  have hown : s.vm.findClass R_Pg = some m.cls := findClass_of_methodNamed Bd.named
  have hlocks := Bd.notSynchronized
  have hK := hE.1
  have hH0 := hH
  have hLo : hLc G.P [] := hLc_nil
  have hz : s.heap.size ≤ s.heap.size := Nat.le_refl _
  have hkp : kp [pb] h h := kp_rf
  have hl := lv_entry [.ref h0, .int at_, .int v] (n := 3) (Nat.le_of_ble_eq_true rfl)
  rw [show entryFrame m args 3 = F0 m 0 ((lg_sl [.ref h0, .int at_, .int v] ++ List.replicate (3 - (lg_sl [.ref h0, .int at_, .int v]).length) Slot.unset).toArray) [] from (by rw [ha]; exact lg_entry_eq m [.ref h0, .int at_, .int v] 3)]
  generalize (lg_sl [.ref h0, .int at_, .int v] ++ List.replicate (3 - (lg_sl [.ref h0, .int at_, .int v]).length) Slot.unset).toArray = ls at hl ⊢
  have hl : lv_has ls 3 [(0, .ref h0), (1, .int at_), (2, .int v)] := hl
  obtain ⟨f, hfit, f_pb⟩ := hpb
  refine lv_iload_n hx hb d_Pg_put_0 rfl (lv_at hl 1 rfl) ?_
  refine lv_if_lt (tgt := 21) hx hb d_Pg_put_1 (by decide) (fun hc1 => ?_) (fun hc1 => ?_)
  · skip
    exact W.vret hx hb hr (fun t9 ht hW => ⟨h, rfl, ⟨hkp, f, hfit, f_pb⟩, by rw [ht]; exact hH, by rw [ht]; exact hz⟩) hLo d_Pg_put_21
  · skip
    refine lv_iload_n hx hb d_Pg_put_4 rfl (lv_at hl 1 rfl) ?_
    refine lv_aload_n hx hb d_Pg_put_5 rfl (lv_at hl 0 rfl) ?_
    refine hm_get (ci := 3) (v := .ref pb) (C := R_Pg) (T := F_Pg) (N := 1) hx hb hts ig_Pg hown hK hH f_h0 rfl 0 (by decide) (hts _ mw_24) (fun _ h9 => h9) rfl d_Pg_put_6 ?_
    refine hm_alen (v := nI n) hx hb hK hH 0 f_pb (ty := .byte) rfl rfl d_Pg_put_9 ?_
    refine lv_icmp_ge (tgt := 21) hx hb d_Pg_put_10 (by decide) (fun hc2 => ?_) (fun hc2 => ?_)
    · skip
      exact W.vret hx hb hr (fun t9 ht hW => ⟨h, rfl, ⟨hkp, f, hfit, f_pb⟩, by rw [ht]; exact hH, by rw [ht]; exact hz⟩) hLo d_Pg_put_21
    · skip
      refine lv_aload_n hx hb d_Pg_put_13 rfl (lv_at hl 0 rfl) ?_
      refine hm_get (ci := 3) (v := .ref pb) (C := R_Pg) (T := F_Pg) (N := 1) hx hb hts ig_Pg hown hK hH f_h0 rfl 0 (by decide) (hts _ mw_24) (fun _ h9 => h9) rfl d_Pg_put_14 ?_
      refine lv_iload_n hx hb d_Pg_put_17 rfl (lv_at hl 1 rfl) ?_
      refine lv_iload_n hx hb d_Pg_put_18 rfl (lv_at hl 2 rfl) ?_
      refine lv_i2b (v := v.toInt8.toInt32) hx hb d_Pg_put_19 rfl ?_
      obtain ⟨j, hj, hat, -⟩ := pk_mu hc1 hc2 hn
      refine hj_bast hx hb hK hH hLo 0 f_pb rfl j hat hj hn d_Pg_put_20 (fun H3 locs hH z4 hLo => ?_)
      have hz : s.heap.size ≤ H3.size := by rw [z4]; exact hz
      obtain ⟨h5, e6⟩ : ∃ z, z = hu h pb (.inl ((t 0), n, .inl (upd f j (vp_nar .byte v.toInt8.toInt32)))) := ⟨_, rfl⟩
      have hH : hm D vwCl G h5 H3 := by rw [e6]; exact hH
      have f_h0 : h5 h0 = some (.inr (3, [.ref pb])) := by rw [e6, hu_n (Ne.symm (h_neA f_pb f_h0))]; exact f_h0
      have f_pb : h5 pb = some (.inl ((t 0), n, .inl (upd f j (vp_nar .byte v.toInt8.toInt32)))) := by rw [e6]; exact hu_s _ _ _
      have hkp : kp [pb] h h5 := by rw [e6]; exact kp_put hkp (by simp)
      exact W.vret hx hb hr (fun t9 ht hW => ⟨h5, rfl, ⟨hkp, _, sb_fitU hfit (fitNar _), f_pb⟩, by rw [ht]; exact hH, by rw [ht]; exact hz⟩) hLo d_Pg_put_21

set_option maxHeartbeats 4000000 in
set_option maxRecDepth 100000 in
theorem c_Page_putLow (l : Launch) (D : va_G) (t : Nat → ClassId) (G : hG) (ak av : Nat → Nat) (h : hM) (h0 pb n : Nat) (at_ wd v : Int32) (f_h0 : h h0 = some (.inr (3, [.ref pb]))) (hpb : pgF t h pb n) (hn : n < 2 ^ 31) : Met l y_Pg_putLow (.code y_Pg_putLow b_Pg_putLow 5 none :: lw_g) { frames := 1, cells := 0, slots := 0, locals := 22 } (hP (kE D t G ak av) D vwCl G h [.ref h0, .int at_, .int wd, .int v]) (hQv D vwCl G (fun h' => kp [pb] h h' ∧ pgF t h' pb n)) 0 0 G.P := by
  refine Met.ofW (cc := b_Pg_putLow) (maxL := 5) (ret := none) (by decide) rfl ?_
  intro p e s m args below meth c s₁ Bd hml hv
  obtain ⟨ha, hE, hH⟩ := hv
  have hx := Bd.exec
  have hb := Bd.bytes
  have hr := Bd.returns
  have hts : ∀ w ∈ lw_g, w.before args s = true := fun w hw => atoms_spec (ws := (.code y_Pg_putLow b_Pg_putLow 5 none :: lw_g)) Bd.pre w (List.mem_cons_of_mem _ hw)
  have hown : s.vm.findClass R_Pg = some m.cls := findClass_of_methodNamed Bd.named
  have hlocks := Bd.notSynchronized
  have hK := hE.1
  have hH0 := hH
  have hLo : hLc G.P [] := hLc_nil
  have hz : s.heap.size ≤ s.heap.size := Nat.le_refl _
  have hkp : kp [pb] h h := kp_rf
  have hl := lv_entry [.ref h0, .int at_, .int wd, .int v] (n := 5) (Nat.le_of_ble_eq_true rfl)
  rw [show entryFrame m args 5 = F0 m 0 ((lg_sl [.ref h0, .int at_, .int wd, .int v] ++ List.replicate (5 - (lg_sl [.ref h0, .int at_, .int wd, .int v]).length) Slot.unset).toArray) [] from (by rw [ha]; exact lg_entry_eq m [.ref h0, .int at_, .int wd, .int v] 5)]
  generalize (lg_sl [.ref h0, .int at_, .int wd, .int v] ++ List.replicate (5 - (lg_sl [.ref h0, .int at_, .int wd, .int v]).length) Slot.unset).toArray = ls at hl ⊢
  have hl : lv_has ls 5 [(0, .ref h0), (1, .int at_), (2, .int wd), (3, .int v)] := hl
  obtain ⟨f, hfit, f_pb⟩ := hpb
  refine lv_iconst (v := 0) hx hb d_Pg_putLow_0 (by decide) ?_
  refine lv_istore (lv' := [(4, .int 0), (0, .ref h0), (1, .int at_), (2, .int wd), (3, .int v)]) hx hb d_Pg_putLow_1 hl (by decide) rfl (fun ls hl => ?_)
  refine hm_loop (fun k ls H locs hh => ∃ (x : Int32), k = (wd.toInt - x.toInt).toNat ∧ lv_has ls 5 [(4, .int x), (0, .ref h0), (1, .int at_), (2, .int wd), (3, .int v)] ∧ hm D vwCl G hh H ∧ s.heap.size ≤ H.size ∧ hLc G.P locs ∧ kp [pb] h hh ∧ hh h0 = some (.inr (3, [.ref pb])) ∧ (pgF t hh pb n)) ?_ (hh := h) ⟨0, rfl, (lv_sub hl [0, 1, 2, 3, 4] rfl), hH, hz, hLo, hkp, f_h0, ⟨f, hfit, f_pb⟩⟩
  rintro k ls H locs hh ⟨x, hk, hl, hH, hz, hLo, hkp, f_h0, hpb⟩ ih
  obtain ⟨f, hfit, f_pb⟩ := hpb
  refine lv_iload hx hb d_Pg_putLow_3 (lv_at hl 0 rfl) ?_
  refine lv_iload_n hx hb d_Pg_putLow_5 rfl (lv_at hl 3 rfl) ?_
  refine lv_icmp_ge (tgt := 30) hx hb d_Pg_putLow_6 (by decide) (fun hc1 => ?_) (fun hc1 => ?_)
  · skip
    exact W.vret hx hb hr (fun t9 ht hW => ⟨hh, rfl, ⟨hkp, f, hfit, f_pb⟩, by rw [ht]; exact hH, by rw [ht]; exact hz⟩) hLo d_Pg_putLow_30
  · skip
    refine lv_aload_n hx hb d_Pg_putLow_9 rfl (lv_at hl 1 rfl) ?_
    refine lv_iload_n hx hb d_Pg_putLow_10 rfl (lv_at hl 2 rfl) ?_
    refine lv_iload hx hb d_Pg_putLow_11 (lv_at hl 0 rfl) ?_
    refine lv_iadd hx hb d_Pg_putLow_13 ?_
    refine lv_iload_n hx hb d_Pg_putLow_14 rfl (lv_at hl 4 rfl) ?_
    refine lv_bipush (v := 8) hx hb d_Pg_putLow_15 (by decide) ?_
    refine lv_iload hx hb d_Pg_putLow_17 (lv_at hl 0 rfl) ?_
    refine lv_imul hx hb d_Pg_putLow_19 ?_
    refine lv_ishr hx hb d_Pg_putLow_20 ?_
    refine hm_callv (va_runV (As := [.int (at_ + x), .int (v >>> ((8 * x) &&& 31))]) (b := h0) (rest := []) ⟨hx, hb, hml, hown, hts⟩ (c_Page_put l D t G ak av hh h0 pb n (at_ + x) (v >>> ((8 * x) &&& 31)) f_h0 ⟨f, hfit, f_pb⟩ hn) ⟨cw9B 2 hts mw_66 mw_67 mw_52 rfl rfl (by decide +kernel) ⟨Nat.le_of_ble_eq_true rfl, Nat.le_of_ble_eq_true rfl⟩, hts _ mw_68, hts _ mw_69⟩ (hP_V (q := (R_Pg, F_Pg, 1)) kE_ok hE hK hH f_h0 rfl) rfl rfl hl.1 rfl (lv_room (Nat.le_of_ble_eq_true rfl)) d_Pg_putLow_21 ⟨Nat.le_of_ble_eq_true rfl, Nat.le_of_ble_eq_true rfl⟩) hLo (fun h2 H3 locs hp5 hH z4 hLo => ?_)
    have hz : s.heap.size ≤ H3.size := Nat.le_trans hz z4
    obtain ⟨hk9, f, hfit, f_pb2⟩ := hp5
    have f_h0 : h2 h0 = some (.inr (3, [.ref pb])) := kp_at hk9 f_h0 (nmc (Ne.symm (h_neA f_pb f_h0)) nm0)
    have hkp : kp [pb] h h2 := kp_tr2 hkp hk9 (List.forall_mem_cons.mpr ⟨Or.inl (by simp), List.forall_mem_nil _⟩)
    have f_pb : h2 pb = some (.inl ((t 0), n, .inl f)) := f_pb2
    refine lv_iinc (v := x + 1) (lv' := [(4, .int (x + 1)), (0, .ref h0), (1, .int at_), (2, .int wd), (3, .int v)]) hx hb d_Pg_putLow_24 hl (k := 0) rfl (by rfl) (by decide) rfl (fun ls hl => ?_)
    refine lv_goto (tgt := 3) hx hb d_Pg_putLow_27 (by decide) ?_
    exact ih ((wd.toInt - (x + 1).toInt).toNat) ls _ locs _ (by rw [hk]; exact i32_step hc1) ⟨(x + 1), rfl, (lv_sub hl [0, 1, 2, 3, 4] rfl), hH, hz, hLo, hkp, f_h0, ⟨f, hfit, f_pb⟩⟩

set_option maxHeartbeats 4000000 in
set_option maxRecDepth 100000 in
theorem c_Page_putHigh (l : Launch) (D : va_G) (t : Nat → ClassId) (G : hG) (ak av : Nat → Nat) (h : hM) (h0 pb n : Nat) (at_ wd v : Int32) (f_h0 : h h0 = some (.inr (3, [.ref pb]))) (hpb : pgF t h pb n) (hn : n < 2 ^ 31) : Met l y_Pg_putHigh (.code y_Pg_putHigh b_Pg_putHigh 5 none :: lw_g) { frames := 1, cells := 0, slots := 0, locals := 22 } (hP (kE D t G ak av) D vwCl G h [.ref h0, .int at_, .int wd, .int v]) (hQv D vwCl G (fun h' => kp [pb] h h' ∧ pgF t h' pb n)) 0 0 G.P := by
  refine Met.ofW (cc := b_Pg_putHigh) (maxL := 5) (ret := none) (by decide) rfl ?_
  intro p e s m args below meth c s₁ Bd hml hv
  obtain ⟨ha, hE, hH⟩ := hv
  have hx := Bd.exec
  have hb := Bd.bytes
  have hr := Bd.returns
  have hts : ∀ w ∈ lw_g, w.before args s = true := fun w hw => atoms_spec (ws := (.code y_Pg_putHigh b_Pg_putHigh 5 none :: lw_g)) Bd.pre w (List.mem_cons_of_mem _ hw)
  have hown : s.vm.findClass R_Pg = some m.cls := findClass_of_methodNamed Bd.named
  have hlocks := Bd.notSynchronized
  have hK := hE.1
  have hH0 := hH
  have hLo : hLc G.P [] := hLc_nil
  have hz : s.heap.size ≤ s.heap.size := Nat.le_refl _
  have hkp : kp [pb] h h := kp_rf
  have hl := lv_entry [.ref h0, .int at_, .int wd, .int v] (n := 5) (Nat.le_of_ble_eq_true rfl)
  rw [show entryFrame m args 5 = F0 m 0 ((lg_sl [.ref h0, .int at_, .int wd, .int v] ++ List.replicate (5 - (lg_sl [.ref h0, .int at_, .int wd, .int v]).length) Slot.unset).toArray) [] from (by rw [ha]; exact lg_entry_eq m [.ref h0, .int at_, .int wd, .int v] 5)]
  generalize (lg_sl [.ref h0, .int at_, .int wd, .int v] ++ List.replicate (5 - (lg_sl [.ref h0, .int at_, .int wd, .int v]).length) Slot.unset).toArray = ls at hl ⊢
  have hl : lv_has ls 5 [(0, .ref h0), (1, .int at_), (2, .int wd), (3, .int v)] := hl
  obtain ⟨f, hfit, f_pb⟩ := hpb
  refine lv_iconst (v := 0) hx hb d_Pg_putHigh_0 (by decide) ?_
  refine lv_istore (lv' := [(4, .int 0), (0, .ref h0), (1, .int at_), (2, .int wd), (3, .int v)]) hx hb d_Pg_putHigh_1 hl (by decide) rfl (fun ls hl => ?_)
  refine hm_loop (fun k ls H locs hh => ∃ (x : Int32), k = (wd.toInt - x.toInt).toNat ∧ lv_has ls 5 [(4, .int x), (0, .ref h0), (1, .int at_), (2, .int wd), (3, .int v)] ∧ hm D vwCl G hh H ∧ s.heap.size ≤ H.size ∧ hLc G.P locs ∧ kp [pb] h hh ∧ hh h0 = some (.inr (3, [.ref pb])) ∧ (pgF t hh pb n)) ?_ (hh := h) ⟨0, rfl, (lv_sub hl [0, 1, 2, 3, 4] rfl), hH, hz, hLo, hkp, f_h0, ⟨f, hfit, f_pb⟩⟩
  rintro k ls H locs hh ⟨x, hk, hl, hH, hz, hLo, hkp, f_h0, hpb⟩ ih
  obtain ⟨f, hfit, f_pb⟩ := hpb
  refine lv_iload hx hb d_Pg_putHigh_3 (lv_at hl 0 rfl) ?_
  refine lv_iload_n hx hb d_Pg_putHigh_5 rfl (lv_at hl 3 rfl) ?_
  refine lv_icmp_ge (tgt := 34) hx hb d_Pg_putHigh_6 (by decide) (fun hc1 => ?_) (fun hc1 => ?_)
  · skip
    exact W.vret hx hb hr (fun t9 ht hW => ⟨hh, rfl, ⟨hkp, f, hfit, f_pb⟩, by rw [ht]; exact hH, by rw [ht]; exact hz⟩) hLo d_Pg_putHigh_34
  · skip
    refine lv_aload_n hx hb d_Pg_putHigh_9 rfl (lv_at hl 1 rfl) ?_
    refine lv_iload_n hx hb d_Pg_putHigh_10 rfl (lv_at hl 2 rfl) ?_
    refine lv_iload_n hx hb d_Pg_putHigh_11 rfl (lv_at hl 3 rfl) ?_
    refine lv_iadd hx hb d_Pg_putHigh_12 ?_
    refine lv_iconst (v := 1) hx hb d_Pg_putHigh_13 (by decide) ?_
    refine lv_isub hx hb d_Pg_putHigh_14 ?_
    refine lv_iload hx hb d_Pg_putHigh_15 (lv_at hl 0 rfl) ?_
    refine lv_isub hx hb d_Pg_putHigh_17 ?_
    refine lv_iload_n hx hb d_Pg_putHigh_18 rfl (lv_at hl 4 rfl) ?_
    refine lv_bipush (v := 8) hx hb d_Pg_putHigh_19 (by decide) ?_
    refine lv_iload hx hb d_Pg_putHigh_21 (lv_at hl 0 rfl) ?_
    refine lv_imul hx hb d_Pg_putHigh_23 ?_
    refine lv_ishr hx hb d_Pg_putHigh_24 ?_
    refine hm_callv (va_runV (As := [.int (((at_ + wd) - 1) - x), .int (v >>> ((8 * x) &&& 31))]) (b := h0) (rest := []) ⟨hx, hb, hml, hown, hts⟩ (c_Page_put l D t G ak av hh h0 pb n (((at_ + wd) - 1) - x) (v >>> ((8 * x) &&& 31)) f_h0 ⟨f, hfit, f_pb⟩ hn) ⟨cw9B 2 hts mw_66 mw_67 mw_52 rfl rfl (by decide +kernel) ⟨Nat.le_of_ble_eq_true rfl, Nat.le_of_ble_eq_true rfl⟩, hts _ mw_68, hts _ mw_69⟩ (hP_V (q := (R_Pg, F_Pg, 1)) kE_ok hE hK hH f_h0 rfl) rfl rfl hl.1 rfl (lv_room (Nat.le_of_ble_eq_true rfl)) d_Pg_putHigh_25 ⟨Nat.le_of_ble_eq_true rfl, Nat.le_of_ble_eq_true rfl⟩) hLo (fun h2 H3 locs hp5 hH z4 hLo => ?_)
    have hz : s.heap.size ≤ H3.size := Nat.le_trans hz z4
    obtain ⟨hk9, f, hfit, f_pb2⟩ := hp5
    have f_h0 : h2 h0 = some (.inr (3, [.ref pb])) := kp_at hk9 f_h0 (nmc (Ne.symm (h_neA f_pb f_h0)) nm0)
    have hkp : kp [pb] h h2 := kp_tr2 hkp hk9 (List.forall_mem_cons.mpr ⟨Or.inl (by simp), List.forall_mem_nil _⟩)
    have f_pb : h2 pb = some (.inl ((t 0), n, .inl f)) := f_pb2
    refine lv_iinc (v := x + 1) (lv' := [(4, .int (x + 1)), (0, .ref h0), (1, .int at_), (2, .int wd), (3, .int v)]) hx hb d_Pg_putHigh_28 hl (k := 0) rfl (by rfl) (by decide) rfl (fun ls hl => ?_)
    refine lv_goto (tgt := 3) hx hb d_Pg_putHigh_31 (by decide) ?_
    exact ih ((wd.toInt - (x + 1).toInt).toNat) ls _ locs _ (by rw [hk]; exact i32_step hc1) ⟨(x + 1), rfl, (lv_sub hl [0, 1, 2, 3, 4] rfl), hH, hz, hLo, hkp, f_h0, ⟨f, hfit, f_pb⟩⟩

set_option maxHeartbeats 4000000 in
set_option maxRecDepth 100000 in
theorem c_Page_putBoth (l : Launch) (D : va_G) (t : Nat → ClassId) (G : hG) (ak av : Nat → Nat) (h : hM) (h0 pb n : Nat) (at_ wd v : Int32) (f_h0 : h h0 = some (.inr (3, [.ref pb]))) (hpb : pgF t h pb n) (hn : n < 2 ^ 31) : Met l y_Pg_putBoth (.code y_Pg_putBoth b_Pg_putBoth 5 none :: lw_g) { frames := 1, cells := 0, slots := 0, locals := 22 } (hP (kE D t G ak av) D vwCl G h [.ref h0, .int at_, .int wd, .int v]) (hQv D vwCl G (fun h' => kp [pb] h h' ∧ pgF t h' pb n)) 0 0 G.P := by
  refine Met.ofW (cc := b_Pg_putBoth) (maxL := 5) (ret := none) (by decide) rfl ?_
  intro p e s m args below meth c s₁ Bd hml hv
  obtain ⟨ha, hE, hH⟩ := hv
  have hx := Bd.exec
  have hb := Bd.bytes
  have hr := Bd.returns
  have hts : ∀ w ∈ lw_g, w.before args s = true := fun w hw => atoms_spec (ws := (.code y_Pg_putBoth b_Pg_putBoth 5 none :: lw_g)) Bd.pre w (List.mem_cons_of_mem _ hw)
  have hown : s.vm.findClass R_Pg = some m.cls := findClass_of_methodNamed Bd.named
  have hlocks := Bd.notSynchronized
  have hK := hE.1
  have hH0 := hH
  have hLo : hLc G.P [] := hLc_nil
  have hz : s.heap.size ≤ s.heap.size := Nat.le_refl _
  have hkp : kp [pb] h h := kp_rf
  have hl := lv_entry [.ref h0, .int at_, .int wd, .int v] (n := 5) (Nat.le_of_ble_eq_true rfl)
  rw [show entryFrame m args 5 = F0 m 0 ((lg_sl [.ref h0, .int at_, .int wd, .int v] ++ List.replicate (5 - (lg_sl [.ref h0, .int at_, .int wd, .int v]).length) Slot.unset).toArray) [] from (by rw [ha]; exact lg_entry_eq m [.ref h0, .int at_, .int wd, .int v] 5)]
  generalize (lg_sl [.ref h0, .int at_, .int wd, .int v] ++ List.replicate (5 - (lg_sl [.ref h0, .int at_, .int wd, .int v]).length) Slot.unset).toArray = ls at hl ⊢
  have hl : lv_has ls 5 [(0, .ref h0), (1, .int at_), (2, .int wd), (3, .int v)] := hl
  obtain ⟨f, hfit, f_pb⟩ := hpb
  refine lv_iconst (v := 0) hx hb d_Pg_putBoth_0 (by decide) ?_
  refine lv_istore (lv' := [(4, .int 0), (0, .ref h0), (1, .int at_), (2, .int wd), (3, .int v)]) hx hb d_Pg_putBoth_1 hl (by decide) rfl (fun ls hl => ?_)
  refine hm_loop (fun k ls H locs hh => ∃ (x : Int32), k = (wd.toInt - x.toInt).toNat ∧ lv_has ls 5 [(4, .int x), (0, .ref h0), (1, .int at_), (2, .int wd), (3, .int v)] ∧ hm D vwCl G hh H ∧ s.heap.size ≤ H.size ∧ hLc G.P locs ∧ kp [pb] h hh ∧ hh h0 = some (.inr (3, [.ref pb])) ∧ (pgF t hh pb n)) ?_ (hh := h) ⟨0, rfl, (lv_sub hl [0, 1, 2, 3, 4] rfl), hH, hz, hLo, hkp, f_h0, ⟨f, hfit, f_pb⟩⟩
  rintro k ls H locs hh ⟨x, hk, hl, hH, hz, hLo, hkp, f_h0, hpb⟩ ih
  obtain ⟨f, hfit, f_pb⟩ := hpb
  refine lv_iload hx hb d_Pg_putBoth_3 (lv_at hl 0 rfl) ?_
  refine lv_iload_n hx hb d_Pg_putBoth_5 rfl (lv_at hl 3 rfl) ?_
  refine lv_icmp_ge (tgt := 51) hx hb d_Pg_putBoth_6 (by decide) (fun hc1 => ?_) (fun hc1 => ?_)
  · skip
    exact W.vret hx hb hr (fun t9 ht hW => ⟨hh, rfl, ⟨hkp, f, hfit, f_pb⟩, by rw [ht]; exact hH, by rw [ht]; exact hz⟩) hLo d_Pg_putBoth_51
  · skip
    refine lv_aload_n hx hb d_Pg_putBoth_9 rfl (lv_at hl 1 rfl) ?_
    refine lv_iload_n hx hb d_Pg_putBoth_10 rfl (lv_at hl 2 rfl) ?_
    refine lv_iload hx hb d_Pg_putBoth_11 (lv_at hl 0 rfl) ?_
    refine lv_iadd hx hb d_Pg_putBoth_13 ?_
    refine lv_iload_n hx hb d_Pg_putBoth_14 rfl (lv_at hl 4 rfl) ?_
    refine lv_bipush (v := 8) hx hb d_Pg_putBoth_15 (by decide) ?_
    refine lv_iload hx hb d_Pg_putBoth_17 (lv_at hl 0 rfl) ?_
    refine lv_imul hx hb d_Pg_putBoth_19 ?_
    refine lv_ishr hx hb d_Pg_putBoth_20 ?_
    refine hm_callv (va_runV (As := [.int (at_ + x), .int (v >>> ((8 * x) &&& 31))]) (b := h0) (rest := []) ⟨hx, hb, hml, hown, hts⟩ (c_Page_put l D t G ak av hh h0 pb n (at_ + x) (v >>> ((8 * x) &&& 31)) f_h0 ⟨f, hfit, f_pb⟩ hn) ⟨cw9B 2 hts mw_66 mw_67 mw_52 rfl rfl (by decide +kernel) ⟨Nat.le_of_ble_eq_true rfl, Nat.le_of_ble_eq_true rfl⟩, hts _ mw_68, hts _ mw_69⟩ (hP_V (q := (R_Pg, F_Pg, 1)) kE_ok hE hK hH f_h0 rfl) rfl rfl hl.1 rfl (lv_room (Nat.le_of_ble_eq_true rfl)) d_Pg_putBoth_21 ⟨Nat.le_of_ble_eq_true rfl, Nat.le_of_ble_eq_true rfl⟩) hLo (fun h2 H3 locs hp5 hH z4 hLo => ?_)
    have hz : s.heap.size ≤ H3.size := Nat.le_trans hz z4
    obtain ⟨hk9, f, hfit, f_pb2⟩ := hp5
    have f_h0 : h2 h0 = some (.inr (3, [.ref pb])) := kp_at hk9 f_h0 (nmc (Ne.symm (h_neA f_pb f_h0)) nm0)
    have hkp : kp [pb] h h2 := kp_tr2 hkp hk9 (List.forall_mem_cons.mpr ⟨Or.inl (by simp), List.forall_mem_nil _⟩)
    have f_pb : h2 pb = some (.inl ((t 0), n, .inl f)) := f_pb2
    refine lv_aload_n hx hb d_Pg_putBoth_24 rfl (lv_at hl 1 rfl) ?_
    refine lv_iload_n hx hb d_Pg_putBoth_25 rfl (lv_at hl 2 rfl) ?_
    refine lv_iconst (v := 2) hx hb d_Pg_putBoth_26 (by decide) ?_
    refine lv_iload_n hx hb d_Pg_putBoth_27 rfl (lv_at hl 3 rfl) ?_
    refine lv_imul hx hb d_Pg_putBoth_28 ?_
    refine lv_iadd hx hb d_Pg_putBoth_29 ?_
    refine lv_iconst (v := 1) hx hb d_Pg_putBoth_30 (by decide) ?_
    refine lv_isub hx hb d_Pg_putBoth_31 ?_
    refine lv_iload hx hb d_Pg_putBoth_32 (lv_at hl 0 rfl) ?_
    refine lv_isub hx hb d_Pg_putBoth_34 ?_
    refine lv_iload_n hx hb d_Pg_putBoth_35 rfl (lv_at hl 4 rfl) ?_
    refine lv_bipush (v := 8) hx hb d_Pg_putBoth_36 (by decide) ?_
    refine lv_iload hx hb d_Pg_putBoth_38 (lv_at hl 0 rfl) ?_
    refine lv_imul hx hb d_Pg_putBoth_40 ?_
    refine lv_ishr hx hb d_Pg_putBoth_41 ?_
    refine hm_callv (va_runV (As := [.int (((at_ + (2 * wd)) - 1) - x), .int (v >>> ((8 * x) &&& 31))]) (b := h0) (rest := []) ⟨hx, hb, hml, hown, hts⟩ (c_Page_put l D t G ak av h2 h0 pb n (((at_ + (2 * wd)) - 1) - x) (v >>> ((8 * x) &&& 31)) f_h0 ⟨f, hfit, f_pb⟩ hn) ⟨cw9B 2 hts mw_66 mw_67 mw_52 rfl rfl (by decide +kernel) ⟨Nat.le_of_ble_eq_true rfl, Nat.le_of_ble_eq_true rfl⟩, hts _ mw_68, hts _ mw_69⟩ (hP_V (q := (R_Pg, F_Pg, 1)) kE_ok hE hK hH f_h0 rfl) rfl rfl hl.1 rfl (lv_room (Nat.le_of_ble_eq_true rfl)) d_Pg_putBoth_42 ⟨Nat.le_of_ble_eq_true rfl, Nat.le_of_ble_eq_true rfl⟩) hLo (fun h6 H7 locs hp9 hH z8 hLo => ?_)
    have hz : s.heap.size ≤ H7.size := Nat.le_trans hz z8
    obtain ⟨hk9, f, hfit, f_pb2⟩ := hp9
    have f_h0 : h6 h0 = some (.inr (3, [.ref pb])) := kp_at hk9 f_h0 (nmc (Ne.symm (h_neA f_pb f_h0)) nm0)
    have hkp : kp [pb] h h6 := kp_tr2 hkp hk9 (List.forall_mem_cons.mpr ⟨Or.inl (by simp), List.forall_mem_nil _⟩)
    have f_pb : h6 pb = some (.inl ((t 0), n, .inl f)) := f_pb2
    refine lv_iinc (v := x + 1) (lv' := [(4, .int (x + 1)), (0, .ref h0), (1, .int at_), (2, .int wd), (3, .int v)]) hx hb d_Pg_putBoth_45 hl (k := 0) rfl (by rfl) (by decide) rfl (fun ls hl => ?_)
    refine lv_goto (tgt := 3) hx hb d_Pg_putBoth_48 (by decide) ?_
    exact ih ((wd.toInt - (x + 1).toInt).toNat) ls _ locs _ (by rw [hk]; exact i32_step hc1) ⟨(x + 1), rfl, (lv_sub hl [0, 1, 2, 3, 4] rfl), hH, hz, hLo, hkp, f_h0, ⟨f, hfit, f_pb⟩⟩
