theorem d_Mo_frontOf_0 : decode b_Mo_frontOf 0 = .ok (.aload_n 0, 1) := by decide +kernel
theorem d_Mo_frontOf_1 : decode b_Mo_frontOf 1 = .ok (.getfield 99, 3) := by decide +kernel
theorem d_Mo_frontOf_4 : decode b_Mo_frontOf 4 = .ok (.istore_n 2, 1) := by decide +kernel
theorem d_Mo_frontOf_5 : decode b_Mo_frontOf 5 = .ok (.iload_n 2, 1) := by decide +kernel
theorem d_Mo_frontOf_6 : decode b_Mo_frontOf 6 = .ok (.ifCond .le 22, 3) := by decide +kernel
theorem d_Mo_frontOf_28 : decode b_Mo_frontOf 28 = .ok (.iload_n 2, 1) := by decide +kernel
theorem d_Mo_frontOf_29 : decode b_Mo_frontOf 29 = .ok (.ireturn, 1) := by decide +kernel
theorem d_Mo_frontOf_9 : decode b_Mo_frontOf 9 = .ok (.aload_n 0, 1) := by decide +kernel
theorem d_Mo_frontOf_10 : decode b_Mo_frontOf 10 = .ok (.getfield 14, 3) := by decide +kernel
theorem d_Mo_frontOf_13 : decode b_Mo_frontOf 13 = .ok (.iload_n 1, 1) := by decide +kernel
theorem d_Mo_frontOf_14 : decode b_Mo_frontOf 14 = .ok (.iload_n 2, 1) := by decide +kernel
theorem d_Mo_frontOf_15 : decode b_Mo_frontOf 15 = .ok (.iadd, 1) := by decide +kernel
theorem d_Mo_frontOf_16 : decode b_Mo_frontOf 16 = .ok (.iconst 1, 1) := by decide +kernel
theorem d_Mo_frontOf_17 : decode b_Mo_frontOf 17 = .ok (.isub, 1) := by decide +kernel
theorem d_Mo_frontOf_18 : decode b_Mo_frontOf 18 = .ok (.baload, 1) := by decide +kernel
theorem d_Mo_frontOf_19 : decode b_Mo_frontOf 19 = .ok (.ifCond .ne 9, 3) := by decide +kernel
theorem d_Mo_frontOf_22 : decode b_Mo_frontOf 22 = .ok (.iinc 2 (-1), 3) := by decide +kernel
theorem d_Mo_frontOf_25 : decode b_Mo_frontOf 25 = .ok (.goto (-20), 3) := by decide +kernel
theorem d_Mo_burn_0 : decode b_Mo_burn 0 = .ok (.aload_n 0, 1) := by decide +kernel
theorem d_Mo_burn_1 : decode b_Mo_burn 1 = .ok (.dup, 1) := by decide +kernel
theorem d_Mo_burn_2 : decode b_Mo_burn 2 = .ok (.getfield 122, 3) := by decide +kernel
theorem d_Mo_burn_5 : decode b_Mo_burn 5 = .ok (.iconst 1, 1) := by decide +kernel
theorem d_Mo_burn_6 : decode b_Mo_burn 6 = .ok (.iadd, 1) := by decide +kernel
theorem d_Mo_burn_7 : decode b_Mo_burn 7 = .ok (.putfield 122, 3) := by decide +kernel
theorem d_Mo_burn_10 : decode b_Mo_burn 10 = .ok (.aload_n 0, 1) := by decide +kernel
theorem d_Mo_burn_11 : decode b_Mo_burn 11 = .ok (.getfield 103, 3) := by decide +kernel
theorem d_Mo_burn_14 : decode b_Mo_burn 14 = .ok (.ifCond .ne 19, 3) := by decide +kernel
theorem d_Mo_burn_33 : decode b_Mo_burn 33 = .ok (.aload_n 0, 1) := by decide +kernel
theorem d_Mo_burn_34 : decode b_Mo_burn 34 = .ok (.getfield 103, 3) := by decide +kernel
theorem d_Mo_burn_37 : decode b_Mo_burn 37 = .ok (.ifCond .le 13, 3) := by decide +kernel
theorem d_Mo_burn_50 : decode b_Mo_burn 50 = .ok (.iload_n 1, 1) := by decide +kernel
theorem d_Mo_burn_51 : decode b_Mo_burn 51 = .ok (.aload_n 0, 1) := by decide +kernel
theorem d_Mo_burn_52 : decode b_Mo_burn 52 = .ok (.getfield 115, 3) := by decide +kernel
theorem d_Mo_burn_55 : decode b_Mo_burn 55 = .ok (.if_icmp .ne 23, 3) := by decide +kernel
theorem d_Mo_burn_78 : decode b_Mo_burn 78 = .ok (.aload_n 0, 1) := by decide +kernel
theorem d_Mo_burn_79 : decode b_Mo_burn 79 = .ok (.getfield 14, 3) := by decide +kernel
theorem d_Mo_burn_82 : decode b_Mo_burn 82 = .ok (.iload_n 1, 1) := by decide +kernel
theorem d_Mo_burn_83 : decode b_Mo_burn 83 = .ok (.iload_n 2, 1) := by decide +kernel
theorem d_Mo_burn_84 : decode b_Mo_burn 84 = .ok (.iadd, 1) := by decide +kernel
theorem d_Mo_burn_85 : decode b_Mo_burn 85 = .ok (.iconst 1, 1) := by decide +kernel
theorem d_Mo_burn_86 : decode b_Mo_burn 86 = .ok (.bastore, 1) := by decide +kernel
theorem d_Mo_burn_87 : decode b_Mo_burn 87 = .ok (.iconst 0, 1) := by decide +kernel
theorem d_Mo_burn_88 : decode b_Mo_burn 88 = .ok (.istore_n 3, 1) := by decide +kernel
theorem d_Mo_burn_89 : decode b_Mo_burn 89 = .ok (.iload_n 3, 1) := by decide +kernel
theorem d_Mo_burn_90 : decode b_Mo_burn 90 = .ok (.sipush 2048, 3) := by decide +kernel
theorem d_Mo_burn_93 : decode b_Mo_burn 93 = .ok (.if_icmp .ge 29, 3) := by decide +kernel
theorem d_Mo_burn_122 : decode b_Mo_burn 122 = .ok (.iconst 0, 1) := by decide +kernel
theorem d_Mo_burn_123 : decode b_Mo_burn 123 = .ok (.ireturn, 1) := by decide +kernel
theorem d_Mo_burn_96 : decode b_Mo_burn 96 = .ok (.aload_n 0, 1) := by decide +kernel
theorem d_Mo_burn_97 : decode b_Mo_burn 97 = .ok (.getfield 8, 3) := by decide +kernel
theorem d_Mo_burn_100 : decode b_Mo_burn 100 = .ok (.sipush 2048, 3) := by decide +kernel
theorem d_Mo_burn_103 : decode b_Mo_burn 103 = .ok (.iload_n 1, 1) := by decide +kernel
theorem d_Mo_burn_104 : decode b_Mo_burn 104 = .ok (.iload_n 2, 1) := by decide +kernel
theorem d_Mo_burn_105 : decode b_Mo_burn 105 = .ok (.iadd, 1) := by decide +kernel
theorem d_Mo_burn_106 : decode b_Mo_burn 106 = .ok (.imul, 1) := by decide +kernel
theorem d_Mo_burn_107 : decode b_Mo_burn 107 = .ok (.iload_n 3, 1) := by decide +kernel
theorem d_Mo_burn_108 : decode b_Mo_burn 108 = .ok (.iadd, 1) := by decide +kernel
theorem d_Mo_burn_109 : decode b_Mo_burn 109 = .ok (.aload_n 0, 1) := by decide +kernel
theorem d_Mo_burn_110 : decode b_Mo_burn 110 = .ok (.getfield 21, 3) := by decide +kernel
theorem d_Mo_burn_113 : decode b_Mo_burn 113 = .ok (.iload_n 3, 1) := by decide +kernel
theorem d_Mo_burn_114 : decode b_Mo_burn 114 = .ok (.baload, 1) := by decide +kernel
theorem d_Mo_burn_115 : decode b_Mo_burn 115 = .ok (.bastore, 1) := by decide +kernel
theorem d_Mo_burn_116 : decode b_Mo_burn 116 = .ok (.iinc 3 1, 3) := by decide +kernel
theorem d_Mo_burn_119 : decode b_Mo_burn 119 = .ok (.goto (-30), 3) := by decide +kernel
theorem d_Mo_burn_58 : decode b_Mo_burn 58 = .ok (.aload_n 0, 1) := by decide +kernel
theorem d_Mo_burn_59 : decode b_Mo_burn 59 = .ok (.getfield 17, 3) := by decide +kernel
theorem d_Mo_burn_62 : decode b_Mo_burn 62 = .ok (.iload_n 2, 1) := by decide +kernel
theorem d_Mo_burn_63 : decode b_Mo_burn 63 = .ok (.baload, 1) := by decide +kernel
theorem d_Mo_burn_64 : decode b_Mo_burn 64 = .ok (.ifCond .eq 14, 3) := by decide +kernel
set_option maxHeartbeats 4000000 in
set_option maxRecDepth 100000 in
theorem c_m_frontOf (l : Launch) (D : va_G) (t : Nat → ClassId) (G : hG) (ak av : Nat → Nat) (h : hM) (mo n aBy aSt aDe aPa aIt aId aPr aNa aSi aSe aIw aEx aOl aPl aTa aAt aLo aS1 aS2 aS3 aS4 aS5 aS6 aO1 aO2 aO3 aO4 aO5 : Nat) (dr wt : Int32) (gSt : Nat → Int32) (fi : Nat) (fv : Int32) (f_m : h mo = some (.inr (9, [.int 0, .int (nI n), .int 0, .ref aBy, .ref aSt, .ref aDe, .int 0, .int (-1), .int wt, .ref aPa, .int 1, .ref aIt, .ref aId, .ref aPr, .ref aNa, .ref aSi, .ref aSe, .ref aIw, .ref aEx, .ref aOl, .int 0, .ref aPl, .int dr, .int 0, .ref aTa, .ref aAt, .ref aLo, .int 0, .int 0, .ref aS1, .ref aS2, .ref aS3, .ref aS4, .ref aS5, .ref aS6, .int 0, .ref aO1, .ref aO2, .ref aO3, .ref aO4, .ref aO5]))) (f_aSt : h aSt = some (.inl ((t 0), 400, .inl gSt))) (hfi : fv = nI fi) (hfi2 : fi ≤ 200) (hz9 : ∀ j, j < n → gSt (fi + j) = 0) (hn : n ≤ 200) : Met l y_Mo_frontOf (.code y_Mo_frontOf b_Mo_frontOf 3 (some .int) :: lw_g) { frames := 0, cells := 0, slots := 0, locals := 0 } (hP (kE D t G ak av) D vwCl G h [.ref mo, .int fv]) (hQi D vwCl G (fun r h' => r = 0 ∧ h = h')) 0 0 G.P := by
  refine Met.ofW (cc := b_Mo_frontOf) (maxL := 3) (ret := (some .int)) (by decide) rfl ?_
  intro p e s m args below meth c s₁ Bd hml hv
  obtain ⟨ha, hE, hH⟩ := hv
  have hx := Bd.exec
  have hb := Bd.bytes
  have hr := Bd.returns
  have hts : ∀ w ∈ lw_g, w.before args s = true := fun w hw => atoms_spec (ws := (.code y_Mo_frontOf b_Mo_frontOf 3 (some .int) :: lw_g)) Bd.pre w (List.mem_cons_of_mem _ hw)
  have hown : s.vm.findClass R_Mo = some m.cls := findClass_of_methodNamed Bd.named
  have hlocks := Bd.notSynchronized
  have hK := hE.1
  have hH0 := hH
  have hLo : hLc G.P [] := hLc_nil
  have hz : s.heap.size ≤ s.heap.size := Nat.le_refl _
  have hkp : kp [] h h := kp_rf
  have hl := lv_entry [.ref mo, .int fv] (n := 3) (Nat.le_of_ble_eq_true rfl)
  rw [show entryFrame m args 3 = F0 m 0 ((lg_sl [.ref mo, .int fv] ++ List.replicate (3 - (lg_sl [.ref mo, .int fv]).length) Slot.unset).toArray) [] from (by rw [ha]; exact lg_entry_eq m [.ref mo, .int fv] 3)]
  generalize (lg_sl [.ref mo, .int fv] ++ List.replicate (3 - (lg_sl [.ref mo, .int fv]).length) Slot.unset).toArray = ls at hl ⊢
  have hl : lv_has ls 3 [(0, .ref mo), (1, .int fv)] := hl
  subst hfi
  refine lv_aload_n hx hb d_Mo_frontOf_0 rfl (lv_at hl 0 rfl) ?_
  refine hm_get (ci := 9) (v := .int (nI n)) (C := R_Mo) (T := F_Mo) (N := 41) hx hb hts ig_Mo hown hK hH f_m rfl 1 (by decide) (hts _ mw_425) (fun _ h9 => h9) rfl d_Mo_frontOf_1 ?_
  refine lv_istore_n (lv' := [(2, .int (nI n)), (0, .ref mo), (1, .int (nI fi))]) hx hb d_Mo_frontOf_4 rfl hl (by decide) rfl (fun ls hl => ?_)
  refine hm_loop (fun k ls H locs hh => ∃ (k9 : Nat), k = k9 ∧ lv_has ls 3 [(2, .int (nI k9)), (0, .ref mo), (1, .int (nI fi))] ∧ hm D vwCl G hh H ∧ s.heap.size ≤ H.size ∧ hLc G.P locs ∧ hh mo = some (.inr (9, [.int 0, .int (nI n), .int 0, .ref aBy, .ref aSt, .ref aDe, .int 0, .int (-1), .int wt, .ref aPa, .int 1, .ref aIt, .ref aId, .ref aPr, .ref aNa, .ref aSi, .ref aSe, .ref aIw, .ref aEx, .ref aOl, .int 0, .ref aPl, .int dr, .int 0, .ref aTa, .ref aAt, .ref aLo, .int 0, .int 0, .ref aS1, .ref aS2, .ref aS3, .ref aS4, .ref aS5, .ref aS6, .int 0, .ref aO1, .ref aO2, .ref aO3, .ref aO4, .ref aO5])) ∧ hh aSt = some (.inl ((t 0), 400, .inl gSt)) ∧ (k9 ≤ n) ∧ (h = hh)) ?_ (hh := h) ⟨n, rfl, (lv_sub hl [0, 1, 2] rfl), hH, hz, hLo, f_m, f_aSt, by omega, rfl⟩
  rintro k ls H locs hh ⟨k9, hk, hl, hH, hz, hLo, f_m, f_aSt, hk9, hhh⟩ ih
  rcases Nat.eq_zero_or_pos k9 with rfl | hpos
  · skip
    refine lv_iload_n hx hb d_Mo_frontOf_5 rfl (lv_at hl 0 rfl) ?_
    refine lv_if_le (tgt := 28) hx hb d_Mo_frontOf_6 (by decide) (fun hc1 => ?_) (fun hc1 => absurd (by decide) hc1)
    refine lv_iload_n hx hb d_Mo_frontOf_28 rfl (lv_at hl 0 rfl) ?_
    exact W.iret (v := nI 0) hx hb hr (fun t9 ht hW => ⟨nI 0, hh, rfl, ⟨nI_0, hhh⟩, by rw [ht]; exact hH, by rw [ht]; exact hz⟩) hLo d_Mo_frontOf_29
  · skip
    obtain ⟨j, rfl⟩ : ∃ j, k9 = j + 1 := ⟨k9 - 1, by omega⟩
    refine lv_iload_n hx hb d_Mo_frontOf_5 rfl (lv_at hl 0 rfl) ?_
    refine lv_if_le (tgt := 28) hx hb d_Mo_frontOf_6 (by decide) (fun hc2 => absurd hc2 (nI_nle (by omega) (by omega))) (fun hc2 => ?_)
    refine lv_aload_n hx hb d_Mo_frontOf_9 rfl (lv_at hl 1 rfl) ?_
    refine hm_get (ci := 9) (v := .ref aSt) (C := R_Mo) (T := F_Mo) (N := 41) hx hb hts ig_Mo hown hK hH f_m rfl 4 (by decide) (hts _ mw_401) (fun _ h9 => h9) rfl d_Mo_frontOf_10 ?_
    refine lv_iload_n hx hb d_Mo_frontOf_13 rfl (lv_at hl 2 rfl) ?_
    refine lv_iload_n hx hb d_Mo_frontOf_14 rfl (lv_at hl 0 rfl) ?_
    refine lv_iadd hx hb d_Mo_frontOf_15 ?_
    refine lv_iconst (v := 1) hx hb d_Mo_frontOf_16 (by decide) ?_
    refine lv_isub hx hb d_Mo_frontOf_17 ?_
    refine hj_bald hx hb hK hH 0 f_aSt rfl (fi + j) (ix6 _ _) (by omega) (by decide) d_Mo_frontOf_18 ?_
    refine lv_if_ne (tgt := 28) hx hb d_Mo_frontOf_19 (by decide) (fun hc3 => absurd (hz9 j (by omega)) hc3) (fun hc3 => ?_)
    refine lv_iinc (v := nI j) (lv' := [(2, .int (nI j)), (0, .ref mo), (1, .int (nI fi))]) hx hb d_Mo_frontOf_22 hl (k := 0) rfl (nI_m1 j) (by decide) rfl (fun ls hl => ?_)
    refine lv_goto (tgt := 5) hx hb d_Mo_frontOf_25 (by decide) ?_
    exact ih (j) ls _ locs _ (by rw [hk]; omega) ⟨j, rfl, (lv_sub hl [0, 1, 2] rfl), hH, hz, hLo, f_m, f_aSt, by omega, hhh⟩

set_option maxHeartbeats 4000000 in
set_option maxRecDepth 100000 in
theorem c_m_burn (l : Launch) (D : va_G) (t : Nat → ClassId) (G : hG) (ak av : Nat → Nat) (h : hM) (mo n aBy aSt aDe aPa aIt aId aPr aNa aSi aSe aIw aEx aOl aPl aTa aAt aLo aS1 aS2 aS3 aS4 aS5 aS6 aO1 aO2 aO3 aO4 aO5 : Nat) (wt : Int32) (gSt gBy gPa gDe : Nat → Int32) (fi S9 : Nat) (fv sv : Int32) (f_m : h mo = some (.inr (9, [.int 0, .int (nI n), .int 0, .ref aBy, .ref aSt, .ref aDe, .int 0, .int (-1), .int wt, .ref aPa, .int 1, .ref aIt, .ref aId, .ref aPr, .ref aNa, .ref aSi, .ref aSe, .ref aIw, .ref aEx, .ref aOl, .int 0, .ref aPl, .int 1, .int 0, .ref aTa, .ref aAt, .ref aLo, .int 0, .int 0, .ref aS1, .ref aS2, .ref aS3, .ref aS4, .ref aS5, .ref aS6, .int 0, .ref aO1, .ref aO2, .ref aO3, .ref aO4, .ref aO5]))) (f_aSt : h aSt = some (.inl ((t 0), 400, .inl gSt))) (f_aBy : h aBy = some (.inl ((t 0), 819200, .inl gBy))) (f_aPa : h aPa = some (.inl ((t 0), 2048, .inl gPa))) (f_aDe : h aDe = some (.inl ((t 1), 200, .inl gDe))) (zDe : ∀ j, gDe j = 0) (hfi : fv = nI fi) (hfi2 : fi ≤ 200) (hs9 : sv = nI S9) (hs92 : S9 < 200) : Met l y_Mo_burn (.code y_Mo_burn b_Mo_burn 4 (some .int) :: lw_g) { frames := 0, cells := 0, slots := 0, locals := 0 } (hP (kE D t G ak av) D vwCl G h [.ref mo, .int fv, .int sv]) (hQi D vwCl G (fun r h' => r = 0 ∧ kp [mo, aSt, aBy] h h' ∧ h' mo = some (.inr (9, [.int 0, .int (nI n), .int 0, .ref aBy, .ref aSt, .ref aDe, .int 0, .int (-1), .int (wt + 1), .ref aPa, .int 1, .ref aIt, .ref aId, .ref aPr, .ref aNa, .ref aSi, .ref aSe, .ref aIw, .ref aEx, .ref aOl, .int 0, .ref aPl, .int 1, .int 0, .ref aTa, .ref aAt, .ref aLo, .int 0, .int 0, .ref aS1, .ref aS2, .ref aS3, .ref aS4, .ref aS5, .ref aS6, .int 0, .ref aO1, .ref aO2, .ref aO3, .ref aO4, .ref aO5])) ∧ ∃ gSt gBy : Nat → Int32, h' aSt = some (.inl ((t 0), 400, .inl gSt)) ∧ h' aBy = some (.inl ((t 0), 819200, .inl gBy)))) 0 0 G.P := by
  refine Met.ofW (cc := b_Mo_burn) (maxL := 4) (ret := (some .int)) (by decide) rfl ?_
  intro p e s m args below meth c s₁ Bd hml hv
  obtain ⟨ha, hE, hH⟩ := hv
  have hx := Bd.exec
  have hb := Bd.bytes
  have hr := Bd.returns
  have hts : ∀ w ∈ lw_g, w.before args s = true := fun w hw => atoms_spec (ws := (.code y_Mo_burn b_Mo_burn 4 (some .int) :: lw_g)) Bd.pre w (List.mem_cons_of_mem _ hw)
  have hown : s.vm.findClass R_Mo = some m.cls := findClass_of_methodNamed Bd.named
  have hlocks := Bd.notSynchronized
  have hK := hE.1
  have hH0 := hH
  have hLo : hLc G.P [] := hLc_nil
  have hz : s.heap.size ≤ s.heap.size := Nat.le_refl _
  have hkp : kp [mo, aSt, aBy] h h := kp_rf
  have hl := lv_entry [.ref mo, .int fv, .int sv] (n := 4) (Nat.le_of_ble_eq_true rfl)
  rw [show entryFrame m args 4 = F0 m 0 ((lg_sl [.ref mo, .int fv, .int sv] ++ List.replicate (4 - (lg_sl [.ref mo, .int fv, .int sv]).length) Slot.unset).toArray) [] from (by rw [ha]; exact lg_entry_eq m [.ref mo, .int fv, .int sv] 4)]
  generalize (lg_sl [.ref mo, .int fv, .int sv] ++ List.replicate (4 - (lg_sl [.ref mo, .int fv, .int sv]).length) Slot.unset).toArray = ls at hl ⊢
  have hl : lv_has ls 4 [(0, .ref mo), (1, .int fv), (2, .int sv)] := hl
  subst hfi
  subst hs9
  refine lv_aload_n hx hb d_Mo_burn_0 rfl (lv_at hl 0 rfl) ?_
  refine lv_dup hx hb d_Mo_burn_1 rfl ?_
  refine hm_get (ci := 9) (v := .int wt) (C := R_Mo) (T := F_Mo) (N := 41) hx hb hts ig_Mo hown hK hH f_m rfl 8 (by decide) (hts _ mw_468) (fun _ h9 => h9) rfl d_Mo_burn_2 ?_
  refine lv_iconst (v := 1) hx hb d_Mo_burn_5 (by decide) ?_
  refine lv_iadd hx hb d_Mo_burn_6 ?_
  refine hm_put (ci := 9) (v := .int (wt + 1)) (ty := .int) (C := R_Mo) (T := F_Mo) (N := 41) hx hb hts ig_Mo t_Mo tk_Mo nm_Mo hown hK hH hLo f_m rfl 8 (by decide) (hts _ mw_468) (fun _ h9 => h9) rfl (by decide +kernel) rfl rfl (Nat.le_of_ble_eq_true rfl) d_Mo_burn_7 (fun H1 locs hH z2 hLo => ?_)
  have hz : s.heap.size ≤ H1.size := by rw [z2]; exact hz
  obtain ⟨h3, e4⟩ : ∃ z, z = hu h mo (.inr (9, [.int 0, .int (nI n), .int 0, .ref aBy, .ref aSt, .ref aDe, .int 0, .int (-1), .int (wt + 1), .ref aPa, .int 1, .ref aIt, .ref aId, .ref aPr, .ref aNa, .ref aSi, .ref aSe, .ref aIw, .ref aEx, .ref aOl, .int 0, .ref aPl, .int 1, .int 0, .ref aTa, .ref aAt, .ref aLo, .int 0, .int 0, .ref aS1, .ref aS2, .ref aS3, .ref aS4, .ref aS5, .ref aS6, .int 0, .ref aO1, .ref aO2, .ref aO3, .ref aO4, .ref aO5])) := ⟨_, rfl⟩
  have hH : hm D vwCl G h3 H1 := by rw [e4]; exact hH
  have f_aSt : h3 aSt = some (.inl ((t 0), 400, .inl gSt)) := by rw [e4, hu_n (h_neA f_aSt f_m)]; exact f_aSt
  have f_aBy : h3 aBy = some (.inl ((t 0), 819200, .inl gBy)) := by rw [e4, hu_n (h_neA f_aBy f_m)]; exact f_aBy
  have f_aPa : h3 aPa = some (.inl ((t 0), 2048, .inl gPa)) := by rw [e4, hu_n (h_neA f_aPa f_m)]; exact f_aPa
  have f_aDe : h3 aDe = some (.inl ((t 1), 200, .inl gDe)) := by rw [e4, hu_n (h_neA f_aDe f_m)]; exact f_aDe
  have f_m : h3 mo = some (.inr (9, [.int 0, .int (nI n), .int 0, .ref aBy, .ref aSt, .ref aDe, .int 0, .int (-1), .int (wt + 1), .ref aPa, .int 1, .ref aIt, .ref aId, .ref aPr, .ref aNa, .ref aSi, .ref aSe, .ref aIw, .ref aEx, .ref aOl, .int 0, .ref aPl, .int 1, .int 0, .ref aTa, .ref aAt, .ref aLo, .int 0, .int 0, .ref aS1, .ref aS2, .ref aS3, .ref aS4, .ref aS5, .ref aS6, .int 0, .ref aO1, .ref aO2, .ref aO3, .ref aO4, .ref aO5])) := by rw [e4]; exact hu_s _ _ _
  have hkp : kp [mo, aSt, aBy] h h3 := by rw [e4]; exact kp_put hkp (by simp)
  refine lv_aload_n hx hb d_Mo_burn_10 rfl (lv_at hl 0 rfl) ?_
  refine hm_get (ci := 9) (v := .int (-1)) (C := R_Mo) (T := F_Mo) (N := 41) hx hb hts ig_Mo hown hK hH f_m rfl 7 (by decide) (hts _ mw_426) (fun _ h9 => h9) rfl d_Mo_burn_11 ?_
  refine lv_if_ne (tgt := 33) hx hb d_Mo_burn_14 (by decide) (fun hc5 => ?_) (fun hc5 => absurd hc5 (by decide))
  refine lv_aload_n hx hb d_Mo_burn_33 rfl (lv_at hl 0 rfl) ?_
  refine hm_get (ci := 9) (v := .int (-1)) (C := R_Mo) (T := F_Mo) (N := 41) hx hb hts ig_Mo hown hK hH f_m rfl 7 (by decide) (hts _ mw_426) (fun _ h9 => h9) rfl d_Mo_burn_34 ?_
  refine lv_if_le (tgt := 50) hx hb d_Mo_burn_37 (by decide) (fun hc6 => ?_) (fun hc6 => absurd (by decide) hc6)
  refine lv_iload_n hx hb d_Mo_burn_50 rfl (lv_at hl 1 rfl) ?_
  refine lv_aload_n hx hb d_Mo_burn_51 rfl (lv_at hl 0 rfl) ?_
  refine hm_get (ci := 9) (v := .int 0) (C := R_Mo) (T := F_Mo) (N := 41) hx hb hts ig_Mo hown hK hH f_m rfl 2 (by decide) (hts _ mw_467) (fun _ h9 => h9) rfl d_Mo_burn_52 ?_
  refine lv_icmp_ne (tgt := 78) hx hb d_Mo_burn_55 (by decide) (fun hc7 => ?_) (fun hc7 => ?_)
  · skip
    refine lv_aload_n hx hb d_Mo_burn_78 rfl (lv_at hl 0 rfl) ?_
    refine hm_get (ci := 9) (v := .ref aSt) (C := R_Mo) (T := F_Mo) (N := 41) hx hb hts ig_Mo hown hK hH f_m rfl 4 (by decide) (hts _ mw_401) (fun _ h9 => h9) rfl d_Mo_burn_79 ?_
    refine lv_iload_n hx hb d_Mo_burn_82 rfl (lv_at hl 1 rfl) ?_
    refine lv_iload_n hx hb d_Mo_burn_83 rfl (lv_at hl 2 rfl) ?_
    refine lv_iadd hx hb d_Mo_burn_84 ?_
    refine lv_iconst (v := 1) hx hb d_Mo_burn_85 (by decide) ?_
    refine hj_bast hx hb hK hH hLo 0 f_aSt rfl (fi + S9) (nI_add _ _) (by omega) (by decide) d_Mo_burn_86 (fun H8 locs hH z9 hLo => ?_)
    have hz : s.heap.size ≤ H8.size := by rw [z9]; exact hz
    obtain ⟨h10, e11⟩ : ∃ z, z = hu h3 aSt (.inl ((t 0), 400, .inl (upd gSt (fi + S9) (vp_nar .byte 1)))) := ⟨_, rfl⟩
    have hH : hm D vwCl G h10 H8 := by rw [e11]; exact hH
    have f_m : h10 mo = some (.inr (9, [.int 0, .int (nI n), .int 0, .ref aBy, .ref aSt, .ref aDe, .int 0, .int (-1), .int (wt + 1), .ref aPa, .int 1, .ref aIt, .ref aId, .ref aPr, .ref aNa, .ref aSi, .ref aSe, .ref aIw, .ref aEx, .ref aOl, .int 0, .ref aPl, .int 1, .int 0, .ref aTa, .ref aAt, .ref aLo, .int 0, .int 0, .ref aS1, .ref aS2, .ref aS3, .ref aS4, .ref aS5, .ref aS6, .int 0, .ref aO1, .ref aO2, .ref aO3, .ref aO4, .ref aO5])) := by rw [e11, hu_n (Ne.symm (h_neA f_aSt f_m))]; exact f_m
    have f_aBy : h10 aBy = some (.inl ((t 0), 819200, .inl gBy)) := by rw [e11, hu_n (h_neL (k1 := 819200) (k2 := 400) f_aBy f_aSt rfl rfl (by omega))]; exact f_aBy
    have f_aPa : h10 aPa = some (.inl ((t 0), 2048, .inl gPa)) := by rw [e11, hu_n (h_neL (k1 := 2048) (k2 := 400) f_aPa f_aSt rfl rfl (by omega))]; exact f_aPa
    have f_aDe : h10 aDe = some (.inl ((t 1), 200, .inl gDe)) := by rw [e11, hu_n (h_neL (k1 := 200) (k2 := 400) f_aDe f_aSt rfl rfl (by omega))]; exact f_aDe
    have f_aSt : h10 aSt = some (.inl ((t 0), 400, .inl (upd gSt (fi + S9) (vp_nar .byte 1)))) := by rw [e11]; exact hu_s _ _ _
    have hkp : kp [mo, aSt, aBy] h h10 := by rw [e11]; exact kp_put hkp (by simp)
    refine lv_iconst (v := 0) hx hb d_Mo_burn_87 (by decide) ?_
    refine lv_topi (fun v12 e13 => ?_)
    obtain rfl : v12 = nI 0 := e13.trans (by decide)
    refine lv_istore_n (lv' := [(3, .int (nI 0)), (0, .ref mo), (1, .int (nI fi)), (2, .int (nI S9))]) hx hb d_Mo_burn_88 rfl hl (by decide) rfl (fun ls hl => ?_)
    refine hm_loop (fun k ls H locs hh => ∃ (k9 : Nat) (g8 : Nat → Int32) (g9 : Nat → Int32), k = 2048 - k9 ∧ lv_has ls 4 [(3, .int (nI k9)), (0, .ref mo), (1, .int (nI fi)), (2, .int (nI S9))] ∧ hm D vwCl G hh H ∧ s.heap.size ≤ H.size ∧ hLc G.P locs ∧ kp [mo, aSt, aBy] h hh ∧ hh mo = some (.inr (9, [.int 0, .int (nI n), .int 0, .ref aBy, .ref aSt, .ref aDe, .int 0, .int (-1), .int (wt + 1), .ref aPa, .int 1, .ref aIt, .ref aId, .ref aPr, .ref aNa, .ref aSi, .ref aSe, .ref aIw, .ref aEx, .ref aOl, .int 0, .ref aPl, .int 1, .int 0, .ref aTa, .ref aAt, .ref aLo, .int 0, .int 0, .ref aS1, .ref aS2, .ref aS3, .ref aS4, .ref aS5, .ref aS6, .int 0, .ref aO1, .ref aO2, .ref aO3, .ref aO4, .ref aO5])) ∧ hh aSt = some (.inl ((t 0), 400, .inl g8)) ∧ hh aBy = some (.inl ((t 0), 819200, .inl g9)) ∧ hh aPa = some (.inl ((t 0), 2048, .inl gPa)) ∧ (k9 ≤ 2048)) ?_ (hh := h10) ⟨0, (upd gSt (fi + S9) (vp_nar .byte 1)), gBy, rfl, (lv_sub hl [0, 1, 2, 3] rfl), hH, hz, hLo, hkp, f_m, f_aSt, f_aBy, f_aPa, by omega⟩
    rintro k ls H locs hh ⟨k9, g8, g9, hk, hl, hH, hz, hLo, hkp, f_m, f_aSt, f_aBy, f_aPa, hk9⟩ ih
    refine lv_iload_n hx hb d_Mo_burn_89 rfl (lv_at hl 0 rfl) ?_
    refine lv_sipush (v := 2048) hx hb d_Mo_burn_90 (by decide) ?_
    refine lv_icmp_ge (tgt := 122) hx hb d_Mo_burn_93 (by decide) (fun hc14 => ?_) (fun hc14 => ?_)
    · skip
      refine lv_iconst (v := 0) hx hb d_Mo_burn_122 (by decide) ?_
      exact W.iret (v := 0) hx hb hr (fun t9 ht hW => ⟨0, hh, rfl, ⟨rfl, hkp, f_m, _, _, f_aSt, f_aBy⟩, by rw [ht]; exact hH, by rw [ht]; exact hz⟩) hLo d_Mo_burn_123
    · skip
      have hk1 : k9 < 2048 := (nI_ltI (by omega) (by omega)).mp (Int32.not_le.mp hc14)
      refine lv_aload_n hx hb d_Mo_burn_96 rfl (lv_at hl 1 rfl) ?_
      refine hm_get (ci := 9) (v := .ref aBy) (C := R_Mo) (T := F_Mo) (N := 41) hx hb hts ig_Mo hown hK hH f_m rfl 3 (by decide) (hts _ mw_400) (fun _ h9 => h9) rfl d_Mo_burn_97 ?_
      refine lv_sipush (v := 2048) hx hb d_Mo_burn_100 (by decide) ?_
      refine lv_iload_n hx hb d_Mo_burn_103 rfl (lv_at hl 2 rfl) ?_
      refine lv_iload_n hx hb d_Mo_burn_104 rfl (lv_at hl 3 rfl) ?_
      refine lv_iadd hx hb d_Mo_burn_105 ?_
      refine lv_imul hx hb d_Mo_burn_106 ?_
      refine lv_iload_n hx hb d_Mo_burn_107 rfl (lv_at hl 0 rfl) ?_
      refine lv_iadd hx hb d_Mo_burn_108 ?_
      refine lv_aload_n hx hb d_Mo_burn_109 rfl (lv_at hl 1 rfl) ?_
      refine hm_get (ci := 9) (v := .ref aPa) (C := R_Mo) (T := F_Mo) (N := 41) hx hb hts ig_Mo hown hK hH f_m rfl 9 (by decide) (hts _ mw_404) (fun _ h9 => h9) rfl d_Mo_burn_110 ?_
      refine lv_iload_n hx hb d_Mo_burn_113 rfl (lv_at hl 0 rfl) ?_
      refine hj_bald hx hb hK hH 0 f_aPa rfl k9 rfl (by omega) (by decide) d_Mo_burn_114 ?_
      refine hj_bast hx hb hK hH hLo 0 f_aBy rfl (2048 * (fi + S9) + k9) (ix9 _ _ _) (by omega) (by decide) d_Mo_burn_115 (fun H15 locs hH z16 hLo => ?_)
      have hz : s.heap.size ≤ H15.size := by rw [z16]; exact hz
      obtain ⟨h17, e18⟩ : ∃ z, z = hu hh aBy (.inl ((t 0), 819200, .inl (upd g9 (2048 * (fi + S9) + k9) (vp_nar .byte (gPa k9))))) := ⟨_, rfl⟩
      have hH : hm D vwCl G h17 H15 := by rw [e18]; exact hH
      have f_m : h17 mo = some (.inr (9, [.int 0, .int (nI n), .int 0, .ref aBy, .ref aSt, .ref aDe, .int 0, .int (-1), .int (wt + 1), .ref aPa, .int 1, .ref aIt, .ref aId, .ref aPr, .ref aNa, .ref aSi, .ref aSe, .ref aIw, .ref aEx, .ref aOl, .int 0, .ref aPl, .int 1, .int 0, .ref aTa, .ref aAt, .ref aLo, .int 0, .int 0, .ref aS1, .ref aS2, .ref aS3, .ref aS4, .ref aS5, .ref aS6, .int 0, .ref aO1, .ref aO2, .ref aO3, .ref aO4, .ref aO5])) := by rw [e18, hu_n (Ne.symm (h_neA f_aBy f_m))]; exact f_m
      have f_aSt : h17 aSt = some (.inl ((t 0), 400, .inl g8)) := by rw [e18, hu_n (h_neL (k1 := 400) (k2 := 819200) f_aSt f_aBy rfl rfl (by omega))]; exact f_aSt
      have f_aPa : h17 aPa = some (.inl ((t 0), 2048, .inl gPa)) := by rw [e18, hu_n (h_neL (k1 := 2048) (k2 := 819200) f_aPa f_aBy rfl rfl (by omega))]; exact f_aPa
      have f_aBy : h17 aBy = some (.inl ((t 0), 819200, .inl (upd g9 (2048 * (fi + S9) + k9) (vp_nar .byte (gPa k9))))) := by rw [e18]; exact hu_s _ _ _
      have hkp : kp [mo, aSt, aBy] h h17 := by rw [e18]; exact kp_put hkp (by simp)
      refine lv_iinc (v := nI (k9 + 1)) (lv' := [(3, .int (nI (k9 + 1))), (0, .ref mo), (1, .int (nI fi)), (2, .int (nI S9))]) hx hb d_Mo_burn_116 hl (k := 0) rfl (nI_1 k9) (by decide) rfl (fun ls hl => ?_)
      refine lv_goto (tgt := 89) hx hb d_Mo_burn_119 (by decide) ?_
      exact ih (2048 - (k9 + 1)) ls _ locs _ (by rw [hk]; omega) ⟨(k9 + 1), _, _, rfl, (lv_sub hl [0, 1, 2, 3] rfl), hH, hz, hLo, hkp, f_m, f_aSt, f_aBy, f_aPa, by omega⟩
  · skip
    refine lv_aload_n hx hb d_Mo_burn_58 rfl (lv_at hl 0 rfl) ?_
    refine hm_get (ci := 9) (v := .ref aDe) (C := R_Mo) (T := F_Mo) (N := 41) hx hb hts ig_Mo hown hK hH f_m rfl 5 (by decide) (hts _ mw_403) (fun _ h9 => h9) rfl d_Mo_burn_59 ?_
    refine lv_iload_n hx hb d_Mo_burn_62 rfl (lv_at hl 2 rfl) ?_
    refine hj_zald hx hb hK hH 1 f_aDe rfl S9 rfl (by omega) (by decide) d_Mo_burn_63 ?_
    refine lv_if_eq (tgt := 78) hx hb d_Mo_burn_64 (by decide) (fun hc19 => ?_) (fun hc19 => absurd (zDe S9) hc19)
    refine lv_aload_n hx hb d_Mo_burn_78 rfl (lv_at hl 0 rfl) ?_
    refine hm_get (ci := 9) (v := .ref aSt) (C := R_Mo) (T := F_Mo) (N := 41) hx hb hts ig_Mo hown hK hH f_m rfl 4 (by decide) (hts _ mw_401) (fun _ h9 => h9) rfl d_Mo_burn_79 ?_
    refine lv_iload_n hx hb d_Mo_burn_82 rfl (lv_at hl 1 rfl) ?_
    refine lv_iload_n hx hb d_Mo_burn_83 rfl (lv_at hl 2 rfl) ?_
    refine lv_iadd hx hb d_Mo_burn_84 ?_
    refine lv_iconst (v := 1) hx hb d_Mo_burn_85 (by decide) ?_
    refine hj_bast hx hb hK hH hLo 0 f_aSt rfl (fi + S9) (nI_add _ _) (by omega) (by decide) d_Mo_burn_86 (fun H20 locs hH z21 hLo => ?_)
    have hz : s.heap.size ≤ H20.size := by rw [z21]; exact hz
    obtain ⟨h22, e23⟩ : ∃ z, z = hu h3 aSt (.inl ((t 0), 400, .inl (upd gSt (fi + S9) (vp_nar .byte 1)))) := ⟨_, rfl⟩
    have hH : hm D vwCl G h22 H20 := by rw [e23]; exact hH
    have f_m : h22 mo = some (.inr (9, [.int 0, .int (nI n), .int 0, .ref aBy, .ref aSt, .ref aDe, .int 0, .int (-1), .int (wt + 1), .ref aPa, .int 1, .ref aIt, .ref aId, .ref aPr, .ref aNa, .ref aSi, .ref aSe, .ref aIw, .ref aEx, .ref aOl, .int 0, .ref aPl, .int 1, .int 0, .ref aTa, .ref aAt, .ref aLo, .int 0, .int 0, .ref aS1, .ref aS2, .ref aS3, .ref aS4, .ref aS5, .ref aS6, .int 0, .ref aO1, .ref aO2, .ref aO3, .ref aO4, .ref aO5])) := by rw [e23, hu_n (Ne.symm (h_neA f_aSt f_m))]; exact f_m
    have f_aBy : h22 aBy = some (.inl ((t 0), 819200, .inl gBy)) := by rw [e23, hu_n (h_neL (k1 := 819200) (k2 := 400) f_aBy f_aSt rfl rfl (by omega))]; exact f_aBy
    have f_aPa : h22 aPa = some (.inl ((t 0), 2048, .inl gPa)) := by rw [e23, hu_n (h_neL (k1 := 2048) (k2 := 400) f_aPa f_aSt rfl rfl (by omega))]; exact f_aPa
    have f_aDe : h22 aDe = some (.inl ((t 1), 200, .inl gDe)) := by rw [e23, hu_n (h_neL (k1 := 200) (k2 := 400) f_aDe f_aSt rfl rfl (by omega))]; exact f_aDe
    have f_aSt : h22 aSt = some (.inl ((t 0), 400, .inl (upd gSt (fi + S9) (vp_nar .byte 1)))) := by rw [e23]; exact hu_s _ _ _
    have hkp : kp [mo, aSt, aBy] h h22 := by rw [e23]; exact kp_put hkp (by simp)
    refine lv_iconst (v := 0) hx hb d_Mo_burn_87 (by decide) ?_
    refine lv_topi (fun v24 e25 => ?_)
    obtain rfl : v24 = nI 0 := e25.trans (by decide)
    refine lv_istore_n (lv' := [(3, .int (nI 0)), (0, .ref mo), (1, .int (nI fi)), (2, .int (nI S9))]) hx hb d_Mo_burn_88 rfl hl (by decide) rfl (fun ls hl => ?_)
    refine hm_loop (fun k ls H locs hh => ∃ (k9 : Nat) (g8 : Nat → Int32) (g9 : Nat → Int32), k = 2048 - k9 ∧ lv_has ls 4 [(3, .int (nI k9)), (0, .ref mo), (1, .int (nI fi)), (2, .int (nI S9))] ∧ hm D vwCl G hh H ∧ s.heap.size ≤ H.size ∧ hLc G.P locs ∧ kp [mo, aSt, aBy] h hh ∧ hh mo = some (.inr (9, [.int 0, .int (nI n), .int 0, .ref aBy, .ref aSt, .ref aDe, .int 0, .int (-1), .int (wt + 1), .ref aPa, .int 1, .ref aIt, .ref aId, .ref aPr, .ref aNa, .ref aSi, .ref aSe, .ref aIw, .ref aEx, .ref aOl, .int 0, .ref aPl, .int 1, .int 0, .ref aTa, .ref aAt, .ref aLo, .int 0, .int 0, .ref aS1, .ref aS2, .ref aS3, .ref aS4, .ref aS5, .ref aS6, .int 0, .ref aO1, .ref aO2, .ref aO3, .ref aO4, .ref aO5])) ∧ hh aSt = some (.inl ((t 0), 400, .inl g8)) ∧ hh aBy = some (.inl ((t 0), 819200, .inl g9)) ∧ hh aPa = some (.inl ((t 0), 2048, .inl gPa)) ∧ (k9 ≤ 2048)) ?_ (hh := h22) ⟨0, (upd gSt (fi + S9) (vp_nar .byte 1)), gBy, rfl, (lv_sub hl [0, 1, 2, 3] rfl), hH, hz, hLo, hkp, f_m, f_aSt, f_aBy, f_aPa, by omega⟩
    rintro k ls H locs hh ⟨k9, g8, g9, hk, hl, hH, hz, hLo, hkp, f_m, f_aSt, f_aBy, f_aPa, hk9⟩ ih
    refine lv_iload_n hx hb d_Mo_burn_89 rfl (lv_at hl 0 rfl) ?_
    refine lv_sipush (v := 2048) hx hb d_Mo_burn_90 (by decide) ?_
    refine lv_icmp_ge (tgt := 122) hx hb d_Mo_burn_93 (by decide) (fun hc26 => ?_) (fun hc26 => ?_)
    · skip
      refine lv_iconst (v := 0) hx hb d_Mo_burn_122 (by decide) ?_
      exact W.iret (v := 0) hx hb hr (fun t9 ht hW => ⟨0, hh, rfl, ⟨rfl, hkp, f_m, _, _, f_aSt, f_aBy⟩, by rw [ht]; exact hH, by rw [ht]; exact hz⟩) hLo d_Mo_burn_123
    · skip
      have hk1 : k9 < 2048 := (nI_ltI (by omega) (by omega)).mp (Int32.not_le.mp hc26)
      refine lv_aload_n hx hb d_Mo_burn_96 rfl (lv_at hl 1 rfl) ?_
      refine hm_get (ci := 9) (v := .ref aBy) (C := R_Mo) (T := F_Mo) (N := 41) hx hb hts ig_Mo hown hK hH f_m rfl 3 (by decide) (hts _ mw_400) (fun _ h9 => h9) rfl d_Mo_burn_97 ?_
      refine lv_sipush (v := 2048) hx hb d_Mo_burn_100 (by decide) ?_
      refine lv_iload_n hx hb d_Mo_burn_103 rfl (lv_at hl 2 rfl) ?_
      refine lv_iload_n hx hb d_Mo_burn_104 rfl (lv_at hl 3 rfl) ?_
      refine lv_iadd hx hb d_Mo_burn_105 ?_
      refine lv_imul hx hb d_Mo_burn_106 ?_
      refine lv_iload_n hx hb d_Mo_burn_107 rfl (lv_at hl 0 rfl) ?_
      refine lv_iadd hx hb d_Mo_burn_108 ?_
      refine lv_aload_n hx hb d_Mo_burn_109 rfl (lv_at hl 1 rfl) ?_
      refine hm_get (ci := 9) (v := .ref aPa) (C := R_Mo) (T := F_Mo) (N := 41) hx hb hts ig_Mo hown hK hH f_m rfl 9 (by decide) (hts _ mw_404) (fun _ h9 => h9) rfl d_Mo_burn_110 ?_
      refine lv_iload_n hx hb d_Mo_burn_113 rfl (lv_at hl 0 rfl) ?_
      refine hj_bald hx hb hK hH 0 f_aPa rfl k9 rfl (by omega) (by decide) d_Mo_burn_114 ?_
      refine hj_bast hx hb hK hH hLo 0 f_aBy rfl (2048 * (fi + S9) + k9) (ix9 _ _ _) (by omega) (by decide) d_Mo_burn_115 (fun H27 locs hH z28 hLo => ?_)
      have hz : s.heap.size ≤ H27.size := by rw [z28]; exact hz
      obtain ⟨h29, e30⟩ : ∃ z, z = hu hh aBy (.inl ((t 0), 819200, .inl (upd g9 (2048 * (fi + S9) + k9) (vp_nar .byte (gPa k9))))) := ⟨_, rfl⟩
      have hH : hm D vwCl G h29 H27 := by rw [e30]; exact hH
      have f_m : h29 mo = some (.inr (9, [.int 0, .int (nI n), .int 0, .ref aBy, .ref aSt, .ref aDe, .int 0, .int (-1), .int (wt + 1), .ref aPa, .int 1, .ref aIt, .ref aId, .ref aPr, .ref aNa, .ref aSi, .ref aSe, .ref aIw, .ref aEx, .ref aOl, .int 0, .ref aPl, .int 1, .int 0, .ref aTa, .ref aAt, .ref aLo, .int 0, .int 0, .ref aS1, .ref aS2, .ref aS3, .ref aS4, .ref aS5, .ref aS6, .int 0, .ref aO1, .ref aO2, .ref aO3, .ref aO4, .ref aO5])) := by rw [e30, hu_n (Ne.symm (h_neA f_aBy f_m))]; exact f_m
      have f_aSt : h29 aSt = some (.inl ((t 0), 400, .inl g8)) := by rw [e30, hu_n (h_neL (k1 := 400) (k2 := 819200) f_aSt f_aBy rfl rfl (by omega))]; exact f_aSt
      have f_aPa : h29 aPa = some (.inl ((t 0), 2048, .inl gPa)) := by rw [e30, hu_n (h_neL (k1 := 2048) (k2 := 819200) f_aPa f_aBy rfl rfl (by omega))]; exact f_aPa
      have f_aBy : h29 aBy = some (.inl ((t 0), 819200, .inl (upd g9 (2048 * (fi + S9) + k9) (vp_nar .byte (gPa k9))))) := by rw [e30]; exact hu_s _ _ _
      have hkp : kp [mo, aSt, aBy] h h29 := by rw [e30]; exact kp_put hkp (by simp)
      refine lv_iinc (v := nI (k9 + 1)) (lv' := [(3, .int (nI (k9 + 1))), (0, .ref mo), (1, .int (nI fi)), (2, .int (nI S9))]) hx hb d_Mo_burn_116 hl (k := 0) rfl (nI_1 k9) (by decide) rfl (fun ls hl => ?_)
      refine lv_goto (tgt := 89) hx hb d_Mo_burn_119 (by decide) ?_
      exact ih (2048 - (k9 + 1)) ls _ locs _ (by rw [hk]; omega) ⟨(k9 + 1), _, _, rfl, (lv_sub hl [0, 1, 2, 3] rfl), hH, hz, hLo, hkp, f_m, f_aSt, f_aBy, f_aPa, by omega⟩
