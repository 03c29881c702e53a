set_option maxRecDepth 100000 in
theorem mw_487 : Cond.fieldLink R_Mo 247 "WriteOnceDiscModel" "number" "I" ∈ lw_g := lw_gin (List.mem_append_right _ (List.mem_of_getElem? (i := 937) rfl)) (by decide +kernel)
theorem d_Mo_discover_0 : decode b_Mo_discover 0 = .ok (.aload_n 0, 1) := by decide +kernel
theorem d_Mo_discover_1 : decode b_Mo_discover 1 = .ok (.iconst 0, 1) := by decide +kernel
theorem d_Mo_discover_2 : decode b_Mo_discover 2 = .ok (.putfield 109, 3) := by decide +kernel
theorem d_Mo_discover_5 : decode b_Mo_discover 5 = .ok (.iconst 0, 1) := by decide +kernel
theorem d_Mo_discover_6 : decode b_Mo_discover 6 = .ok (.istore_n 1, 1) := by decide +kernel
theorem d_Mo_discover_7 : decode b_Mo_discover 7 = .ok (.iconst (-1), 1) := by decide +kernel
theorem d_Mo_discover_8 : decode b_Mo_discover 8 = .ok (.istore_n 2, 1) := by decide +kernel
theorem d_Mo_discover_9 : decode b_Mo_discover 9 = .ok (.iconst 0, 1) := by decide +kernel
theorem d_Mo_discover_10 : decode b_Mo_discover 10 = .ok (.istore_n 3, 1) := by decide +kernel
theorem d_Mo_discover_11 : decode b_Mo_discover 11 = .ok (.iload_n 3, 1) := by decide +kernel
theorem d_Mo_discover_12 : decode b_Mo_discover 12 = .ok (.aload_n 0, 1) := by decide +kernel
theorem d_Mo_discover_13 : decode b_Mo_discover 13 = .ok (.getfield 99, 3) := by decide +kernel
theorem d_Mo_discover_16 : decode b_Mo_discover 16 = .ok (.if_icmp .ge 44, 3) := by decide +kernel
theorem d_Mo_discover_60 : decode b_Mo_discover 60 = .ok (.aload_n 0, 1) := by decide +kernel
theorem d_Mo_discover_61 : decode b_Mo_discover 61 = .ok (.getfield 125, 3) := by decide +kernel
theorem d_Mo_discover_64 : decode b_Mo_discover 64 = .ok (.ifCond .eq 8, 3) := by decide +kernel
theorem d_Mo_discover_72 : decode b_Mo_discover 72 = .ok (.aload_n 0, 1) := by decide +kernel
theorem d_Mo_discover_73 : decode b_Mo_discover 73 = .ok (.iconst 0, 1) := by decide +kernel
theorem d_Mo_discover_74 : decode b_Mo_discover 74 = .ok (.putfield 125, 3) := by decide +kernel
theorem d_Mo_discover_77 : decode b_Mo_discover 77 = .ok (.aload_n 0, 1) := by decide +kernel
theorem d_Mo_discover_78 : decode b_Mo_discover 78 = .ok (.iconst 0, 1) := by decide +kernel
theorem d_Mo_discover_79 : decode b_Mo_discover 79 = .ok (.putfield 247, 3) := by decide +kernel
theorem d_Mo_discover_82 : decode b_Mo_discover 82 = .ok (.iconst 0, 1) := by decide +kernel
theorem d_Mo_discover_83 : decode b_Mo_discover 83 = .ok (.istore_n 3, 1) := by decide +kernel
theorem d_Mo_discover_84 : decode b_Mo_discover 84 = .ok (.iload_n 3, 1) := by decide +kernel
theorem d_Mo_discover_85 : decode b_Mo_discover 85 = .ok (.aload_n 0, 1) := by decide +kernel
theorem d_Mo_discover_86 : decode b_Mo_discover 86 = .ok (.getfield 112, 3) := by decide +kernel
theorem d_Mo_discover_89 : decode b_Mo_discover 89 = .ok (.if_icmp .ge 16, 3) := by decide +kernel
theorem d_Mo_discover_92 : decode b_Mo_discover 92 = .ok (.aload_n 0, 1) := by decide +kernel
theorem d_Mo_discover_93 : decode b_Mo_discover 93 = .ok (.getfield 24, 3) := by decide +kernel
theorem d_Mo_discover_96 : decode b_Mo_discover 96 = .ok (.iload_n 3, 1) := by decide +kernel
theorem d_Mo_discover_97 : decode b_Mo_discover 97 = .ok (.iconst 0, 1) := by decide +kernel
theorem d_Mo_discover_98 : decode b_Mo_discover 98 = .ok (.bastore, 1) := by decide +kernel
theorem d_Mo_discover_99 : decode b_Mo_discover 99 = .ok (.iinc 3 1, 3) := by decide +kernel
theorem d_Mo_discover_102 : decode b_Mo_discover 102 = .ok (.goto (-18), 3) := by decide +kernel
theorem d_Mo_discover_105 : decode b_Mo_discover 105 = .ok (.aload_n 0, 1) := by decide +kernel
theorem d_Mo_discover_106 : decode b_Mo_discover 106 = .ok (.invokevirtual 106, 3) := by decide +kernel
theorem d_Mo_discover_109 : decode b_Mo_discover 109 = .ok (.iload_n 2, 1) := by decide +kernel
theorem d_Mo_discover_110 : decode b_Mo_discover 110 = .ok (.ifCond .ge 5, 3) := by decide +kernel
theorem d_Mo_discover_113 : decode b_Mo_discover 113 = .ok (.iconst 0, 1) := by decide +kernel
theorem d_Mo_discover_114 : decode b_Mo_discover 114 = .ok (.ireturn, 1) := by decide +kernel
theorem d_Mo_discover_19 : decode b_Mo_discover 19 = .ok (.aload_n 0, 1) := by decide +kernel
theorem d_Mo_discover_20 : decode b_Mo_discover 20 = .ok (.iload_n 3, 1) := by decide +kernel
theorem d_Mo_discover_21 : decode b_Mo_discover 21 = .ok (.invokevirtual 311, 3) := by decide +kernel
theorem d_Mo_discover_24 : decode b_Mo_discover 24 = .ok (.ifCond .eq 30, 3) := by decide +kernel
theorem d_Mo_discover_54 : decode b_Mo_discover 54 = .ok (.iinc 3 1, 3) := by decide +kernel
theorem d_Mo_discover_57 : decode b_Mo_discover 57 = .ok (.goto (-46), 3) := by decide +kernel
set_option maxHeartbeats 4000000 in
set_option maxRecDepth 100000 in
theorem c_m_discover (l : Launch) (D : va_G) (t : Nat → ClassId) (G : hG) (ak av : Nat → Nat) (h : hM) (mo n : Nat) (hM : FrM t h mo n) : Met l y_Mo_discover (.code y_Mo_discover b_Mo_discover 4 (some .int) :: lw_g) { frames := 3, cells := 0, slots := 0, locals := 66 } (hP (kE D t G ak av) D vwCl G h [.ref mo]) (hQi D vwCl G (fun r h' => r = 0)) 0 0 G.P := by
  refine Met.ofW (cc := b_Mo_discover) (maxL := 4) (ret := (some .int)) (by decide) rfl ?_
  intro p e s m args below meth c s₁ Bd hml hv
  obtain ⟨ha, hE, hH⟩ := hv
  have hx := Bd.exec
  have hb := Bd.bytes
  have hr := Bd.returns
  have hts : ∀ w ∈ lw_g, w.before args s = true := fun w hw => atoms_spec (ws := (.code y_Mo_discover b_Mo_discover 4 (some .int) :: lw_g)) Bd.pre w (List.mem_cons_of_mem _ hw)
  have hown : s.vm.findClass R_Mo = some m.cls := findClass_of_methodNamed Bd.named
  have hlocks := Bd.notSynchronized
  have hK := hE.1
  have hH0 := hH
  have hLo : hLc G.P [] := hLc_nil
  have hz : s.heap.size ≤ s.heap.size := Nat.le_refl _
  have hkp : kp [] h h := kp_rf
  have hl := lv_entry [.ref mo] (n := 4) (Nat.le_of_ble_eq_true rfl)
  rw [show entryFrame m args 4 = F0 m 0 ((lg_sl [.ref mo] ++ List.replicate (4 - (lg_sl [.ref mo]).length) Slot.unset).toArray) [] from (by rw [ha]; exact lg_entry_eq m [.ref mo] 4)]
  generalize (lg_sl [.ref mo] ++ List.replicate (4 - (lg_sl [.ref mo]).length) Slot.unset).toArray = ls at hl ⊢
  have hl : lv_has ls 4 [(0, .ref mo)] := hl
  refine FrM_elim hM ?_
  intro aBy aSt aDe aPa aIt aId aPr aNa aSi aSe aIw aEx aOl aPl aTa aAt aLo aS1 aS2 aS3 aS4 aS5 aS6 aO1 aO2 aO3 aO4 aO5 gBy gSt gDe gPa gIt gId gPr gSi gSe gIw gEx gOl gPl gTa gAt gLo gNa f_m f_aBy f_aSt f_aDe f_aPa f_aIt f_aId f_aPr f_aNa f_aSi f_aSe f_aIw f_aEx f_aOl f_aPl f_aTa f_aAt f_aLo zBy zSt zDe zIt zId zPr zSi zSe zEx ne_aIt_aId ne_aIt_aPr ne_aIt_aSi ne_aIt_aSe ne_aIt_aEx ne_aId_aPr ne_aId_aSi ne_aId_aSe ne_aId_aEx ne_aPr_aSi ne_aPr_aSe ne_aPr_aEx ne_aSi_aSe ne_aSi_aEx ne_aSe_aEx ne_aId_aAt ne_aId_aLo ne_aAt_aLo ne_aId_aOl ne_aIt_aIw ne_aId_aIw ne_aPr_aIw ne_aSi_aIw ne_aSe_aIw ne_aIw_aEx ne_aEx_aOl ne_aOl_aAt ne_aOl_aLo hn40 hn
  refine lv_aload_n hx hb d_Mo_discover_0 rfl (lv_at hl 0 rfl) ?_
  refine lv_iconst (v := 0) hx hb d_Mo_discover_1 (by decide) ?_
  refine hm_put (ci := 9) (v := .int 0) (ty := .int) (C := R_Mo) (T := F_Mo) (N := 41) hx hb hts ig_Mo t_Mo tk_Mo nm_Mo hown hK hH hLo f_m rfl 0 (by decide) (hts _ mw_432) (fun _ h9 => h9) rfl (by decide +kernel) rfl rfl (Nat.le_of_ble_eq_true rfl) d_Mo_discover_2 (fun H1 locs hH z2 hLo => ?_)
  have hz : s.heap.size ≤ H1.size := by rw [z2]; exact hz
  obtain ⟨h3, e4⟩ : ∃ z, z = hu h mo (.inr (9, [.int 0, .int (nI n), .int 0, .ref aBy, .ref aSt, .ref aDe, .int 0, .int (-1), .int 0, .ref aPa, .int 1, .ref aIt, .ref aId, .ref aPr, .ref aNa, .ref aSi, .ref aSe, .ref aIw, .ref aEx, .ref aOl, .int 0, .ref aPl, .int 0, .int 0, .ref aTa, .ref aAt, .ref aLo, .int 0, .int 0, .ref aS1, .ref aS2, .ref aS3, .ref aS4, .ref aS5, .ref aS6, .int 0, .ref aO1, .ref aO2, .ref aO3, .ref aO4, .ref aO5])) := ⟨_, rfl⟩
  have hH : hm D vwCl G h3 H1 := by rw [e4]; exact hH
  have f_aSt : h3 aSt = some (.inl ((t 0), 400, .inl gSt)) := by rw [e4, hu_n (h_neA f_aSt f_m)]; exact f_aSt
  have f_aIt : h3 aIt = some (.inl ((t 1), 700, .inl gIt)) := by rw [e4, hu_n (h_neA f_aIt f_m)]; exact f_aIt
  have f_aId : h3 aId = some (.inl ((t 1), 700, .inl gId)) := by rw [e4, hu_n (h_neA f_aId f_m)]; exact f_aId
  have f_aPr : h3 aPr = some (.inl ((t 2), 700, .inl gPr)) := by rw [e4, hu_n (h_neA f_aPr f_m)]; exact f_aPr
  have f_aSi : h3 aSi = some (.inl ((t 2), 700, .inl gSi)) := by rw [e4, hu_n (h_neA f_aSi f_m)]; exact f_aSi
  have f_aSe : h3 aSe = some (.inl ((t 2), 700, .inl gSe)) := by rw [e4, hu_n (h_neA f_aSe f_m)]; exact f_aSe
  have f_aEx : h3 aEx = some (.inl ((t 2), 700, .inl gEx)) := by rw [e4, hu_n (h_neA f_aEx f_m)]; exact f_aEx
  have f_aNa : h3 aNa = some (.inl ((t 3), 700, .inr (.inl gNa))) := by rw [e4, hu_n (h_neA f_aNa f_m)]; exact f_aNa
  have f_m : h3 mo = some (.inr (9, [.int 0, .int (nI n), .int 0, .ref aBy, .ref aSt, .ref aDe, .int 0, .int (-1), .int 0, .ref aPa, .int 1, .ref aIt, .ref aId, .ref aPr, .ref aNa, .ref aSi, .ref aSe, .ref aIw, .ref aEx, .ref aOl, .int 0, .ref aPl, .int 0, .int 0, .ref aTa, .ref aAt, .ref aLo, .int 0, .int 0, .ref aS1, .ref aS2, .ref aS3, .ref aS4, .ref aS5, .ref aS6, .int 0, .ref aO1, .ref aO2, .ref aO3, .ref aO4, .ref aO5])) := by rw [e4]; exact hu_s _ _ _
  refine lv_iconst (v := 0) hx hb d_Mo_discover_5 (by decide) ?_
  refine lv_istore_n (lv' := [(1, .int 0), (0, .ref mo)]) hx hb d_Mo_discover_6 rfl hl (by decide) rfl (fun ls hl => ?_)
  refine lv_iconst (v := -1) hx hb d_Mo_discover_7 (by decide) ?_
  refine lv_istore_n (lv' := [(2, .int (-1)), (1, .int 0), (0, .ref mo)]) hx hb d_Mo_discover_8 rfl hl (by decide) rfl (fun ls hl => ?_)
  refine lv_iconst (v := 0) hx hb d_Mo_discover_9 (by decide) ?_
  refine lv_topi (fun v5 e6 => ?_)
  obtain rfl : v5 = nI 0 := e6.trans (by decide)
  refine lv_istore_n (lv' := [(3, .int (nI 0)), (2, .int (-1)), (1, .int 0), (0, .ref mo)]) hx hb d_Mo_discover_10 rfl hl (by decide) rfl (fun ls hl => ?_)
  refine hm_loop (fun k ls H locs hh => ∃ (k9 : Nat), k = n - k9 ∧ lv_has ls 4 [(3, .int (nI k9)), (0, .ref mo), (1, .int 0), (2, .int (-1))] ∧ hm D vwCl G hh H ∧ s.heap.size ≤ H.size ∧ hLc G.P locs ∧ hh mo = some (.inr (9, [.int 0, .int (nI n), .int 0, .ref aBy, .ref aSt, .ref aDe, .int 0, .int (-1), .int 0, .ref aPa, .int 1, .ref aIt, .ref aId, .ref aPr, .ref aNa, .ref aSi, .ref aSe, .ref aIw, .ref aEx, .ref aOl, .int 0, .ref aPl, .int 0, .int 0, .ref aTa, .ref aAt, .ref aLo, .int 0, .int 0, .ref aS1, .ref aS2, .ref aS3, .ref aS4, .ref aS5, .ref aS6, .int 0, .ref aO1, .ref aO2, .ref aO3, .ref aO4, .ref aO5])) ∧ hh aSt = some (.inl ((t 0), 400, .inl gSt)) ∧ hh aIt = some (.inl ((t 1), 700, .inl gIt)) ∧ hh aId = some (.inl ((t 1), 700, .inl gId)) ∧ hh aPr = some (.inl ((t 2), 700, .inl gPr)) ∧ hh aSi = some (.inl ((t 2), 700, .inl gSi)) ∧ hh aSe = some (.inl ((t 2), 700, .inl gSe)) ∧ hh aEx = some (.inl ((t 2), 700, .inl gEx)) ∧ hh aNa = some (.inl ((t 3), 700, .inr (.inl gNa))) ∧ (k9 ≤ n)) ?_ (hh := h3) ⟨0, rfl, (lv_sub hl [0, 3, 2, 1] rfl), hH, hz, hLo, f_m, f_aSt, f_aIt, f_aId, f_aPr, f_aSi, f_aSe, f_aEx, f_aNa, by omega⟩
  rintro k ls H locs hh ⟨k9, hk, hl, hH, hz, hLo, f_m, f_aSt, f_aIt, f_aId, f_aPr, f_aSi, f_aSe, f_aEx, f_aNa, hk9⟩ ih
  refine lv_iload_n hx hb d_Mo_discover_11 rfl (lv_at hl 0 rfl) ?_
  refine lv_aload_n hx hb d_Mo_discover_12 rfl (lv_at hl 1 rfl) ?_
  refine hm_get (ci := 9) (v := .int (nI n)) (C := R_Mo) (T := F_Mo) (N := 41) hx hb hts ig_Mo hown hK hH f_m rfl 1 (by decide) (hts _ mw_425) (fun _ h9 => h9) rfl d_Mo_discover_13 ?_
  refine lv_icmp_ge (tgt := 60) hx hb d_Mo_discover_16 (by decide) (fun hc7 => ?_) (fun hc7 => ?_)
  · skip
    refine lv_aload_n hx hb d_Mo_discover_60 rfl (lv_at hl 1 rfl) ?_
    refine hm_get (ci := 9) (v := .int 0) (C := R_Mo) (T := F_Mo) (N := 41) hx hb hts ig_Mo hown hK hH f_m rfl 6 (by decide) (hts _ mw_440) (fun _ h9 => h9) rfl d_Mo_discover_61 ?_
    refine lv_if_eq (tgt := 72) hx hb d_Mo_discover_64 (by decide) (fun hc8 => ?_) (fun hc8 => absurd rfl hc8)
    refine lv_aload_n hx hb d_Mo_discover_72 rfl (lv_at hl 1 rfl) ?_
    refine lv_iconst (v := 0) hx hb d_Mo_discover_73 (by decide) ?_
    refine hm_put (ci := 9) (v := .int 0) (ty := .boolean) (C := R_Mo) (T := F_Mo) (N := 41) hx hb hts ig_Mo t_Mo tk_Mo nm_Mo hown hK hH hLo f_m rfl 6 (by decide) (hts _ mw_440) (fun _ h9 => h9) rfl (by decide +kernel) (by decide) (by decide) (Nat.le_of_ble_eq_true rfl) d_Mo_discover_74 (fun H9 locs hH z10 hLo => ?_)
    have hz : s.heap.size ≤ H9.size := by rw [z10]; exact hz
    obtain ⟨h11, e12⟩ : ∃ z, z = hu hh mo (.inr (9, [.int 0, .int (nI n), .int 0, .ref aBy, .ref aSt, .ref aDe, .int 0, .int (-1), .int 0, .ref aPa, .int 1, .ref aIt, .ref aId, .ref aPr, .ref aNa, .ref aSi, .ref aSe, .ref aIw, .ref aEx, .ref aOl, .int 0, .ref aPl, .int 0, .int 0, .ref aTa, .ref aAt, .ref aLo, .int 0, .int 0, .ref aS1, .ref aS2, .ref aS3, .ref aS4, .ref aS5, .ref aS6, .int 0, .ref aO1, .ref aO2, .ref aO3, .ref aO4, .ref aO5])) := ⟨_, rfl⟩
    have hH : hm D vwCl G h11 H9 := by rw [e12]; exact hH
    have f_aSt : h11 aSt = some (.inl ((t 0), 400, .inl gSt)) := by rw [e12, hu_n (h_neA f_aSt f_m)]; exact f_aSt
    have f_aIt : h11 aIt = some (.inl ((t 1), 700, .inl gIt)) := by rw [e12, hu_n (h_neA f_aIt f_m)]; exact f_aIt
    have f_aId : h11 aId = some (.inl ((t 1), 700, .inl gId)) := by rw [e12, hu_n (h_neA f_aId f_m)]; exact f_aId
    have f_aPr : h11 aPr = some (.inl ((t 2), 700, .inl gPr)) := by rw [e12, hu_n (h_neA f_aPr f_m)]; exact f_aPr
    have f_aSi : h11 aSi = some (.inl ((t 2), 700, .inl gSi)) := by rw [e12, hu_n (h_neA f_aSi f_m)]; exact f_aSi
    have f_aSe : h11 aSe = some (.inl ((t 2), 700, .inl gSe)) := by rw [e12, hu_n (h_neA f_aSe f_m)]; exact f_aSe
    have f_aEx : h11 aEx = some (.inl ((t 2), 700, .inl gEx)) := by rw [e12, hu_n (h_neA f_aEx f_m)]; exact f_aEx
    have f_aNa : h11 aNa = some (.inl ((t 3), 700, .inr (.inl gNa))) := by rw [e12, hu_n (h_neA f_aNa f_m)]; exact f_aNa
    have f_m : h11 mo = some (.inr (9, [.int 0, .int (nI n), .int 0, .ref aBy, .ref aSt, .ref aDe, .int 0, .int (-1), .int 0, .ref aPa, .int 1, .ref aIt, .ref aId, .ref aPr, .ref aNa, .ref aSi, .ref aSe, .ref aIw, .ref aEx, .ref aOl, .int 0, .ref aPl, .int 0, .int 0, .ref aTa, .ref aAt, .ref aLo, .int 0, .int 0, .ref aS1, .ref aS2, .ref aS3, .ref aS4, .ref aS5, .ref aS6, .int 0, .ref aO1, .ref aO2, .ref aO3, .ref aO4, .ref aO5])) := by rw [e12]; exact hu_s _ _ _
    refine lv_aload_n hx hb d_Mo_discover_77 rfl (lv_at hl 1 rfl) ?_
    refine lv_iconst (v := 0) hx hb d_Mo_discover_78 (by decide) ?_
    refine hm_put (ci := 9) (v := .int 0) (ty := .int) (C := R_Mo) (T := F_Mo) (N := 41) hx hb hts ig_Mo t_Mo tk_Mo nm_Mo hown hK hH hLo f_m rfl 20 (by decide) (hts _ mw_487) (fun _ h9 => h9) rfl (by decide +kernel) rfl rfl (Nat.le_of_ble_eq_true rfl) d_Mo_discover_79 (fun H13 locs hH z14 hLo => ?_)
    have hz : s.heap.size ≤ H13.size := by rw [z14]; exact hz
    obtain ⟨h15, e16⟩ : ∃ z, z = hu h11 mo (.inr (9, [.int 0, .int (nI n), .int 0, .ref aBy, .ref aSt, .ref aDe, .int 0, .int (-1), .int 0, .ref aPa, .int 1, .ref aIt, .ref aId, .ref aPr, .ref aNa, .ref aSi, .ref aSe, .ref aIw, .ref aEx, .ref aOl, .int 0, .ref aPl, .int 0, .int 0, .ref aTa, .ref aAt, .ref aLo, .int 0, .int 0, .ref aS1, .ref aS2, .ref aS3, .ref aS4, .ref aS5, .ref aS6, .int 0, .ref aO1, .ref aO2, .ref aO3, .ref aO4, .ref aO5])) := ⟨_, rfl⟩
    have hH : hm D vwCl G h15 H13 := by rw [e16]; exact hH
    have f_aSt : h15 aSt = some (.inl ((t 0), 400, .inl gSt)) := by rw [e16, hu_n (h_neA f_aSt f_m)]; exact f_aSt
    have f_aIt : h15 aIt = some (.inl ((t 1), 700, .inl gIt)) := by rw [e16, hu_n (h_neA f_aIt f_m)]; exact f_aIt
    have f_aId : h15 aId = some (.inl ((t 1), 700, .inl gId)) := by rw [e16, hu_n (h_neA f_aId f_m)]; exact f_aId
    have f_aPr : h15 aPr = some (.inl ((t 2), 700, .inl gPr)) := by rw [e16, hu_n (h_neA f_aPr f_m)]; exact f_aPr
    have f_aSi : h15 aSi = some (.inl ((t 2), 700, .inl gSi)) := by rw [e16, hu_n (h_neA f_aSi f_m)]; exact f_aSi
    have f_aSe : h15 aSe = some (.inl ((t 2), 700, .inl gSe)) := by rw [e16, hu_n (h_neA f_aSe f_m)]; exact f_aSe
    have f_aEx : h15 aEx = some (.inl ((t 2), 700, .inl gEx)) := by rw [e16, hu_n (h_neA f_aEx f_m)]; exact f_aEx
    have f_aNa : h15 aNa = some (.inl ((t 3), 700, .inr (.inl gNa))) := by rw [e16, hu_n (h_neA f_aNa f_m)]; exact f_aNa
    have f_m : h15 mo = some (.inr (9, [.int 0, .int (nI n), .int 0, .ref aBy, .ref aSt, .ref aDe, .int 0, .int (-1), .int 0, .ref aPa, .int 1, .ref aIt, .ref aId, .ref aPr, .ref aNa, .ref aSi, .ref aSe, .ref aIw, .ref aEx, .ref aOl, .int 0, .ref aPl, .int 0, .int 0, .ref aTa, .ref aAt, .ref aLo, .int 0, .int 0, .ref aS1, .ref aS2, .ref aS3, .ref aS4, .ref aS5, .ref aS6, .int 0, .ref aO1, .ref aO2, .ref aO3, .ref aO4, .ref aO5])) := by rw [e16]; exact hu_s _ _ _
    refine lv_iconst (v := 0) hx hb d_Mo_discover_82 (by decide) ?_
    refine lv_istore_n (lv' := [(3, .int 0), (0, .ref mo), (1, .int 0), (2, .int (-1))]) hx hb d_Mo_discover_83 rfl hl (by decide) rfl (fun ls hl => ?_)
    refine lv_iload_n hx hb d_Mo_discover_84 rfl (lv_at hl 0 rfl) ?_
    refine lv_aload_n hx hb d_Mo_discover_85 rfl (lv_at hl 1 rfl) ?_
    refine hm_get (ci := 9) (v := .int 1) (C := R_Mo) (T := F_Mo) (N := 41) hx hb hts ig_Mo hown hK hH f_m rfl 10 (by decide) (hts _ mw_390) (fun _ h9 => h9) rfl d_Mo_discover_86 ?_
    refine lv_icmp_ge (tgt := 105) hx hb d_Mo_discover_89 (by decide) (fun hc17 => absurd hc17 (by decide)) (fun hc17 => ?_)
    refine lv_aload_n hx hb d_Mo_discover_92 rfl (lv_at hl 1 rfl) ?_
    refine hm_get (ci := 9) (v := .ref aIt) (C := R_Mo) (T := F_Mo) (N := 41) hx hb hts ig_Mo hown hK hH f_m rfl 11 (by decide) (hts _ mw_391) (fun _ h9 => h9) rfl d_Mo_discover_93 ?_
    refine lv_iload_n hx hb d_Mo_discover_96 rfl (lv_at hl 0 rfl) ?_
    refine lv_iconst (v := 0) hx hb d_Mo_discover_97 (by decide) ?_
    refine hj_zast hx hb hK hH hLo 1 f_aIt rfl 0 (by decide) (by decide) (by decide) d_Mo_discover_98 (fun H18 locs hH z19 hLo => ?_)
    have hz : s.heap.size ≤ H18.size := by rw [z19]; exact hz
    obtain ⟨h20, e21⟩ : ∃ z, z = hu h15 aIt (.inl ((t 1), 700, .inl (upd gIt 0 (vp_nar .boolean 0)))) := ⟨_, rfl⟩
    have hH : hm D vwCl G h20 H18 := by rw [e21]; exact hH
    have f_m : h20 mo = some (.inr (9, [.int 0, .int (nI n), .int 0, .ref aBy, .ref aSt, .ref aDe, .int 0, .int (-1), .int 0, .ref aPa, .int 1, .ref aIt, .ref aId, .ref aPr, .ref aNa, .ref aSi, .ref aSe, .ref aIw, .ref aEx, .ref aOl, .int 0, .ref aPl, .int 0, .int 0, .ref aTa, .ref aAt, .ref aLo, .int 0, .int 0, .ref aS1, .ref aS2, .ref aS3, .ref aS4, .ref aS5, .ref aS6, .int 0, .ref aO1, .ref aO2, .ref aO3, .ref aO4, .ref aO5])) := by rw [e21, hu_n (Ne.symm (h_neA f_aIt f_m))]; exact f_m
    have f_aSt : h20 aSt = some (.inl ((t 0), 400, .inl gSt)) := by rw [e21, hu_n (h_neL (k1 := 400) (k2 := 700) f_aSt f_aIt rfl rfl (by omega))]; exact f_aSt
    have f_aId : h20 aId = some (.inl ((t 1), 700, .inl gId)) := by rw [e21, hu_n (Ne.symm ne_aIt_aId)]; exact f_aId
    have f_aPr : h20 aPr = some (.inl ((t 2), 700, .inl gPr)) := by rw [e21, hu_n (Ne.symm ne_aIt_aPr)]; exact f_aPr
    have f_aSi : h20 aSi = some (.inl ((t 2), 700, .inl gSi)) := by rw [e21, hu_n (Ne.symm ne_aIt_aSi)]; exact f_aSi
    have f_aSe : h20 aSe = some (.inl ((t 2), 700, .inl gSe)) := by rw [e21, hu_n (Ne.symm ne_aIt_aSe)]; exact f_aSe
    have f_aEx : h20 aEx = some (.inl ((t 2), 700, .inl gEx)) := by rw [e21, hu_n (Ne.symm ne_aIt_aEx)]; exact f_aEx
    have f_aNa : h20 aNa = some (.inl ((t 3), 700, .inr (.inl gNa))) := by rw [e21, hu_n (h_neK (k1 := 1) (k2 := 0) f_aNa f_aIt rfl rfl (by decide))]; exact f_aNa
    have f_aIt : h20 aIt = some (.inl ((t 1), 700, .inl (upd gIt 0 (vp_nar .boolean 0)))) := by rw [e21]; exact hu_s _ _ _
    refine lv_iinc (v := 0 + 1) (lv' := [(3, .int (0 + 1)), (0, .ref mo), (1, .int 0), (2, .int (-1))]) hx hb d_Mo_discover_99 hl (k := 0) rfl (by rfl) (by decide) rfl (fun ls hl => ?_)
    refine lv_goto (tgt := 84) hx hb d_Mo_discover_102 (by decide) ?_
    refine lv_iload_n hx hb d_Mo_discover_84 rfl (lv_at hl 0 rfl) ?_
    refine lv_aload_n hx hb d_Mo_discover_85 rfl (lv_at hl 1 rfl) ?_
    refine hm_get (ci := 9) (v := .int 1) (C := R_Mo) (T := F_Mo) (N := 41) hx hb hts ig_Mo hown hK hH f_m rfl 10 (by decide) (hts _ mw_390) (fun _ h9 => h9) rfl d_Mo_discover_86 ?_
    refine lv_icmp_ge (tgt := 105) hx hb d_Mo_discover_89 (by decide) (fun hc22 => ?_) (fun hc22 => absurd (by decide) hc22)
    refine lv_aload_n hx hb d_Mo_discover_105 rfl (lv_at hl 1 rfl) ?_
    refine hm_callv (va_runV (As := []) (b := mo) (rest := []) ⟨hx, hb, hml, hown, hts⟩ (c_m_rootAlone l D t G ak av h20 mo n aBy aSt aDe aPa aIt aId aPr aNa aSi aSe aIw aEx aOl aPl aTa aAt aLo aS1 aS2 aS3 aS4 aS5 aS6 aO1 aO2 aO3 aO4 aO5 1 (upd gIt 0 (vp_nar .boolean 0)) gId gPr gSi gSe gEx gNa f_m f_aIt f_aId f_aPr f_aSi f_aSe f_aEx f_aNa ne_aIt_aId ne_aIt_aPr ne_aIt_aSi ne_aIt_aSe ne_aIt_aEx ne_aId_aPr ne_aId_aSi ne_aId_aSe ne_aId_aEx ne_aPr_aSi ne_aPr_aSe ne_aPr_aEx ne_aSi_aSe ne_aSi_aEx ne_aSe_aEx) ⟨cw9B 0 hts mw_427 mw_429 mw_428 rfl rfl (by decide +kernel) ⟨Nat.le_of_ble_eq_true rfl, Nat.le_of_ble_eq_true rfl⟩, hts _ mw_430, hts _ mw_431⟩ (hP_V (q := (R_Mo, F_Mo, 41)) kE_ok hE hK hH f_m rfl) rfl rfl hl.1 rfl (lv_room (Nat.le_of_ble_eq_true rfl)) d_Mo_discover_106 ⟨Nat.le_of_ble_eq_true rfl, Nat.le_of_ble_eq_true rfl⟩) hLo (fun h23 H24 locs hp26 hH z25 hLo => ?_)
    have hz : s.heap.size ≤ H24.size := Nat.le_trans hz z25
    refine lv_iload_n hx hb d_Mo_discover_109 rfl (lv_at hl 3 rfl) ?_
    refine lv_if_ge (tgt := 115) hx hb d_Mo_discover_110 (by decide) (fun hc27 => absurd hc27 (by decide)) (fun hc27 => ?_)
    refine lv_iconst (v := 0) hx hb d_Mo_discover_113 (by decide) ?_
    exact W.iret (v := 0) hx hb hr (fun t9 ht hW => ⟨0, h23, rfl, rfl, by rw [ht]; exact hH, by rw [ht]; exact hz⟩) hLo d_Mo_discover_114
  · skip
    have hk1 : k9 < n := (nI_ltI (by omega) (by omega)).mp (Int32.not_le.mp hc7)
    refine lv_aload_n hx hb d_Mo_discover_19 rfl (lv_at hl 1 rfl) ?_
    refine lv_iload_n hx hb d_Mo_discover_20 rfl (lv_at hl 0 rfl) ?_
    refine hm_calli (va_runV (As := [.int (nI k9)]) (b := mo) (rest := []) ⟨hx, hb, hml, hown, hts⟩ (c_m_isMark l D t G ak av hh mo n aBy aSt aDe aPa aIt aId aPr aNa aSi aSe aIw aEx aOl aPl aTa aAt aLo aS1 aS2 aS3 aS4 aS5 aS6 aO1 aO2 aO3 aO4 aO5 gSt (nI k9) f_m f_aSt zSt hn40 hn) ⟨cw9B 1 hts mw_477 mw_478 mw_428 rfl rfl (by decide +kernel) ⟨Nat.le_of_ble_eq_true rfl, Nat.le_of_ble_eq_true rfl⟩, hts _ mw_479, hts _ mw_480⟩ (hP_V (q := (R_Mo, F_Mo, 41)) kE_ok hE hK hH f_m rfl) rfl rfl hl.1 rfl (lv_room (Nat.le_of_ble_eq_true rfl)) d_Mo_discover_21 ⟨Nat.le_of_ble_eq_true rfl, Nat.le_of_ble_eq_true rfl⟩) hLo (fun r28 h29 H30 locs hp32 hH z31 hLo => ?_)
    have hz : s.heap.size ≤ H30.size := Nat.le_trans hz z31
    obtain ⟨rfl, rfl⟩ := hp32
    refine lv_if_eq (tgt := 54) hx hb d_Mo_discover_24 (by decide) (fun hc33 => ?_) (fun hc33 => absurd rfl hc33)
    refine lv_iinc (v := nI (k9 + 1)) (lv' := [(3, .int (nI (k9 + 1))), (0, .ref mo), (1, .int 0), (2, .int (-1))]) hx hb d_Mo_discover_54 hl (k := 0) rfl (nI_1 k9) (by decide) rfl (fun ls hl => ?_)
    refine lv_goto (tgt := 11) hx hb d_Mo_discover_57 (by decide) ?_
    exact ih (n - (k9 + 1)) ls _ locs _ (by rw [hk]; omega) ⟨(k9 + 1), rfl, (lv_sub hl [0, 1, 2, 3] rfl), hH, hz, hLo, f_m, f_aSt, f_aIt, f_aId, f_aPr, f_aSi, f_aSe, f_aEx, f_aNa, by omega⟩
