set_option maxRecDepth 100000 in
theorem mw_528 : Cond.code y_Mo_frontOf b_Mo_frontOf 3 (some .int) ∈ lw_g := lw_gin (List.mem_append_right _ (List.mem_of_getElem? (i := 1127) rfl)) (by decide +kernel)
set_option maxRecDepth 100000 in
theorem mw_529 : Cond.methodLink R_Mo 228 y_Mo_frontOf ∈ lw_g := lw_gin (List.mem_append_right _ (List.mem_of_getElem? (i := 1124) rfl)) (by decide +kernel)
set_option maxRecDepth 100000 in
theorem mw_530 : Cond.instanceMethod y_Mo_frontOf ∈ lw_g := lw_gin (List.mem_append_right _ (List.mem_of_getElem? (i := 1126) rfl)) (by decide +kernel)
set_option maxRecDepth 100000 in
theorem mw_531 : Cond.selects R_Mo y_Mo_frontOf y_Mo_frontOf ∈ lw_g := lw_gin (List.mem_append_left _ (List.mem_of_getElem? (i := 35) rfl)) (by decide +kernel)
set_option maxRecDepth 100000 in
theorem mw_532 : Cond.code y_Mo_measure b_Mo_measure 5 (some .int) ∈ lw_g := lw_gin (List.mem_append_right _ (List.mem_of_getElem? (i := 1147) rfl)) (by decide +kernel)
set_option maxRecDepth 100000 in
theorem mw_533 : Cond.methodLink R_Mo 238 y_Mo_measure ∈ lw_g := lw_gin (List.mem_append_right _ (List.mem_of_getElem? (i := 1144) rfl)) (by decide +kernel)
set_option maxRecDepth 100000 in
theorem mw_534 : Cond.instanceMethod y_Mo_measure ∈ lw_g := lw_gin (List.mem_append_right _ (List.mem_of_getElem? (i := 1146) rfl)) (by decide +kernel)
set_option maxRecDepth 100000 in
theorem mw_535 : Cond.selects R_Mo y_Mo_measure y_Mo_measure ∈ lw_g := lw_gin (List.mem_append_left _ (List.mem_of_getElem? (i := 40) rfl)) (by decide +kernel)
set_option maxRecDepth 100000 in
theorem mw_536 : Cond.code y_Mo_design b_Mo_design 10 none ∈ lw_g := lw_gin (List.mem_append_right _ (List.mem_of_getElem? (i := 1201) rfl)) (by decide +kernel)
set_option maxRecDepth 100000 in
theorem mw_537 : Cond.methodLink R_Mo 241 y_Mo_design ∈ lw_g := lw_gin (List.mem_append_right _ (List.mem_of_getElem? (i := 1198) rfl)) (by decide +kernel)
set_option maxRecDepth 100000 in
theorem mw_538 : Cond.instanceMethod y_Mo_design ∈ lw_g := lw_gin (List.mem_append_right _ (List.mem_of_getElem? (i := 1200) rfl)) (by decide +kernel)
set_option maxRecDepth 100000 in
theorem mw_539 : Cond.selects R_Mo y_Mo_design y_Mo_design ∈ lw_g := lw_gin (List.mem_append_left _ (List.mem_of_getElem? (i := 49) rfl)) (by decide +kernel)
set_option maxRecDepth 100000 in
theorem mw_540 : Cond.code y_Mo_burn b_Mo_burn 4 (some .int) ∈ lw_g := lw_gin (List.mem_append_right _ (List.mem_of_getElem? (i := 1139) rfl)) (by decide +kernel)
set_option maxRecDepth 100000 in
theorem mw_541 : Cond.methodLink R_Mo 235 y_Mo_burn ∈ lw_g := lw_gin (List.mem_append_right _ (List.mem_of_getElem? (i := 1136) rfl)) (by decide +kernel)
set_option maxRecDepth 100000 in
theorem mw_542 : Cond.instanceMethod y_Mo_burn ∈ lw_g := lw_gin (List.mem_append_right _ (List.mem_of_getElem? (i := 1138) rfl)) (by decide +kernel)
set_option maxRecDepth 100000 in
theorem mw_543 : Cond.selects R_Mo y_Mo_burn y_Mo_burn ∈ lw_g := lw_gin (List.mem_append_left _ (List.mem_of_getElem? (i := 38) rfl)) (by decide +kernel)
theorem d_Mo_session_0 : decode b_Mo_session 0 = .ok (.aload_n 0, 1) := by decide +kernel
theorem d_Mo_session_1 : decode b_Mo_session 1 = .ok (.iload_n 1, 1) := by decide +kernel
theorem d_Mo_session_2 : decode b_Mo_session 2 = .ok (.invokevirtual 228, 3) := by decide +kernel
theorem d_Mo_session_5 : decode b_Mo_session 5 = .ok (.istore_n 3, 1) := by decide +kernel
theorem d_Mo_session_6 : decode b_Mo_session 6 = .ok (.aload_n 0, 1) := by decide +kernel
theorem d_Mo_session_7 : decode b_Mo_session 7 = .ok (.iload_n 3, 1) := by decide +kernel
theorem d_Mo_session_8 : decode b_Mo_session 8 = .ok (.invokevirtual 238, 3) := by decide +kernel
theorem d_Mo_session_11 : decode b_Mo_session 11 = .ok (.istore 4, 2) := by decide +kernel
theorem d_Mo_session_13 : decode b_Mo_session 13 = .ok (.iload_n 3, 1) := by decide +kernel
theorem d_Mo_session_14 : decode b_Mo_session 14 = .ok (.iload 4, 2) := by decide +kernel
theorem d_Mo_session_16 : decode b_Mo_session 16 = .ok (.iadd, 1) := by decide +kernel
theorem d_Mo_session_17 : decode b_Mo_session 17 = .ok (.aload_n 0, 1) := by decide +kernel
theorem d_Mo_session_18 : decode b_Mo_session 18 = .ok (.getfield 99, 3) := by decide +kernel
theorem d_Mo_session_21 : decode b_Mo_session 21 = .ok (.if_icmp .le 6, 3) := by decide +kernel
theorem d_Mo_session_27 : decode b_Mo_session 27 = .ok (.aload_n 0, 1) := by decide +kernel
theorem d_Mo_session_28 : decode b_Mo_session 28 = .ok (.iload_n 3, 1) := by decide +kernel
theorem d_Mo_session_29 : decode b_Mo_session 29 = .ok (.iload 4, 2) := by decide +kernel
theorem d_Mo_session_31 : decode b_Mo_session 31 = .ok (.iload_n 2, 1) := by decide +kernel
theorem d_Mo_session_32 : decode b_Mo_session 32 = .ok (.invokevirtual 241, 3) := by decide +kernel
theorem d_Mo_session_35 : decode b_Mo_session 35 = .ok (.iconst 0, 1) := by decide +kernel
theorem d_Mo_session_36 : decode b_Mo_session 36 = .ok (.istore 5, 2) := by decide +kernel
theorem d_Mo_session_38 : decode b_Mo_session 38 = .ok (.bipush 16, 2) := by decide +kernel
theorem d_Mo_session_40 : decode b_Mo_session 40 = .ok (.istore 6, 2) := by decide +kernel
theorem d_Mo_session_42 : decode b_Mo_session 42 = .ok (.iload 6, 2) := by decide +kernel
theorem d_Mo_session_44 : decode b_Mo_session 44 = .ok (.iload 4, 2) := by decide +kernel
theorem d_Mo_session_46 : decode b_Mo_session 46 = .ok (.if_icmp .ge 66, 3) := by decide +kernel
theorem d_Mo_session_112 : decode b_Mo_session 112 = .ok (.iload 5, 2) := by decide +kernel
theorem d_Mo_session_114 : decode b_Mo_session 114 = .ok (.iconst 2, 1) := by decide +kernel
theorem d_Mo_session_115 : decode b_Mo_session 115 = .ok (.if_icmp .ne 6, 3) := by decide +kernel
theorem d_Mo_session_121 : decode b_Mo_session 121 = .ok (.iload 5, 2) := by decide +kernel
theorem d_Mo_session_123 : decode b_Mo_session 123 = .ok (.ifCond .ne 5, 3) := by decide +kernel
theorem d_Mo_session_126 : decode b_Mo_session 126 = .ok (.iload_n 2, 1) := by decide +kernel
theorem d_Mo_session_127 : decode b_Mo_session 127 = .ok (.ireturn, 1) := by decide +kernel
theorem d_Mo_session_49 : decode b_Mo_session 49 = .ok (.iload 5, 2) := by decide +kernel
theorem d_Mo_session_51 : decode b_Mo_session 51 = .ok (.ifCond .ne 61, 3) := by decide +kernel
theorem d_Mo_session_54 : decode b_Mo_session 54 = .ok (.iconst 0, 1) := by decide +kernel
theorem d_Mo_session_55 : decode b_Mo_session 55 = .ok (.istore 7, 2) := by decide +kernel
theorem d_Mo_session_57 : decode b_Mo_session 57 = .ok (.iload 7, 2) := by decide +kernel
theorem d_Mo_session_59 : decode b_Mo_session 59 = .ok (.sipush 2048, 3) := by decide +kernel
theorem d_Mo_session_62 : decode b_Mo_session 62 = .ok (.if_icmp .ge 33, 3) := by decide +kernel
theorem d_Mo_session_95 : decode b_Mo_session 95 = .ok (.aload_n 0, 1) := by decide +kernel
theorem d_Mo_session_96 : decode b_Mo_session 96 = .ok (.iload_n 1, 1) := by decide +kernel
theorem d_Mo_session_97 : decode b_Mo_session 97 = .ok (.iload_n 3, 1) := by decide +kernel
theorem d_Mo_session_98 : decode b_Mo_session 98 = .ok (.iload 6, 2) := by decide +kernel
theorem d_Mo_session_100 : decode b_Mo_session 100 = .ok (.iadd, 1) := by decide +kernel
theorem d_Mo_session_101 : decode b_Mo_session 101 = .ok (.invokevirtual 235, 3) := by decide +kernel
theorem d_Mo_session_104 : decode b_Mo_session 104 = .ok (.istore 5, 2) := by decide +kernel
theorem d_Mo_session_106 : decode b_Mo_session 106 = .ok (.iinc 6 1, 3) := by decide +kernel
theorem d_Mo_session_109 : decode b_Mo_session 109 = .ok (.goto (-67), 3) := by decide +kernel
theorem d_Mo_session_65 : decode b_Mo_session 65 = .ok (.aload_n 0, 1) := by decide +kernel
theorem d_Mo_session_66 : decode b_Mo_session 66 = .ok (.getfield 21, 3) := by decide +kernel
theorem d_Mo_session_69 : decode b_Mo_session 69 = .ok (.iload 7, 2) := by decide +kernel
theorem d_Mo_session_71 : decode b_Mo_session 71 = .ok (.aload_n 0, 1) := by decide +kernel
theorem d_Mo_session_72 : decode b_Mo_session 72 = .ok (.getfield 54, 3) := by decide +kernel
theorem d_Mo_session_75 : decode b_Mo_session 75 = .ok (.sipush 2048, 3) := by decide +kernel
theorem d_Mo_session_78 : decode b_Mo_session 78 = .ok (.iload 6, 2) := by decide +kernel
theorem d_Mo_session_80 : decode b_Mo_session 80 = .ok (.bipush 16, 2) := by decide +kernel
theorem d_Mo_session_82 : decode b_Mo_session 82 = .ok (.isub, 1) := by decide +kernel
theorem d_Mo_session_83 : decode b_Mo_session 83 = .ok (.imul, 1) := by decide +kernel
theorem d_Mo_session_84 : decode b_Mo_session 84 = .ok (.iload 7, 2) := by decide +kernel
theorem d_Mo_session_86 : decode b_Mo_session 86 = .ok (.iadd, 1) := by decide +kernel
theorem d_Mo_session_87 : decode b_Mo_session 87 = .ok (.baload, 1) := by decide +kernel
theorem d_Mo_session_88 : decode b_Mo_session 88 = .ok (.bastore, 1) := by decide +kernel
theorem d_Mo_session_89 : decode b_Mo_session 89 = .ok (.iinc 7 1, 3) := by decide +kernel
theorem d_Mo_session_92 : decode b_Mo_session 92 = .ok (.goto (-35), 3) := by decide +kernel
set_option maxHeartbeats 4000000 in
set_option maxRecDepth 100000 in
theorem c_m_session (l : Launch) (D : va_G) (t : Nat → ClassId) (G : hG) (ak av : Nat → Nat) (h : hM) (mo n aBy aSt aDe aPa aIt aId aPr aNa aSi aSe aIw aEx aOl aPl aTa aAt aLo aS1 aS2 aS3 aS4 aS5 aS6 aO1 aO2 aO3 aO4 aO5 : Nat) (gSt gBy gPa gDe gPl gId gTa gAt gLo : Nat → Int32) (fi : Nat) (fv nu : Int32) (f_m : h mo = some (.inr (9, [.int 0, .int (nI n), .int 0, .ref aBy, .ref aSt, .ref aDe, .int 0, .int (-1), .int 0, .ref aPa, .int 1, .ref aIt, .ref aId, .ref aPr, .ref aNa, .ref aSi, .ref aSe, .ref aIw, .ref aEx, .ref aOl, .int 0, .ref aPl, .int 0, .int 0, .ref aTa, .ref aAt, .ref aLo, .int 0, .int 0, .ref aS1, .ref aS2, .ref aS3, .ref aS4, .ref aS5, .ref aS6, .int 0, .ref aO1, .ref aO2, .ref aO3, .ref aO4, .ref aO5]))) (f_aSt : h aSt = some (.inl ((t 0), 400, .inl gSt))) (f_aBy : h aBy = some (.inl ((t 0), 819200, .inl gBy))) (f_aPa : h aPa = some (.inl ((t 0), 2048, .inl gPa))) (f_aDe : h aDe = some (.inl ((t 1), 200, .inl gDe))) (f_aPl : h aPl = some (.inl ((t 0), 163840, .inl gPl))) (f_aId : h aId = some (.inl ((t 1), 700, .inl gId))) (f_aTa : h aTa = some (.inl ((t 2), 30, .inl gTa))) (f_aAt : h aAt = some (.inl ((t 2), 700, .inl gAt))) (f_aLo : h aLo = some (.inl ((t 2), 700, .inl gLo))) (zDe : ∀ j, gDe j = 0) (zId : gId 0 = 1) (hfi : fv = nI fi) (hfi2 : fi ≤ 200) (hz9 : ∀ j, j < n → gSt (fi + j) = 0) (hn40 : 40 ≤ n) (hn : n ≤ 200) (ne_aId_aAt : aId ≠ aAt) (ne_aId_aLo : aId ≠ aLo) (ne_aAt_aLo : aAt ≠ aLo) : Met l y_Mo_session (.code y_Mo_session b_Mo_session 8 (some .int) :: lw_g) { frames := 5, cells := 0, slots := 0, locals := 129 } (hP (kE D t G ak av) D vwCl G h [.ref mo, .int fv, .int nu]) (hQi D vwCl G (fun r h' => r = nu ∧ kp [mo, aTa, aAt, aLo, aPl, aPa, aSt, aBy] h h' ∧ ∃ wt9 : Int32, h' mo = some (.inr (9, [.int 0, .int (nI n), .int 0, .ref aBy, .ref aSt, .ref aDe, .int 0, .int (-1), .int wt9, .ref aPa, .int 1, .ref aIt, .ref aId, .ref aPr, .ref aNa, .ref aSi, .ref aSe, .ref aIw, .ref aEx, .ref aOl, .int 0, .ref aPl, .int 1, .int 0, .ref aTa, .ref aAt, .ref aLo, .int 0, .int 0, .ref aS1, .ref aS2, .ref aS3, .ref aS4, .ref aS5, .ref aS6, .int 0, .ref aO1, .ref aO2, .ref aO3, .ref aO4, .ref aO5])))) 0 0 G.P := by
  refine Met.ofW (cc := b_Mo_session) (maxL := 8) (ret := (some .int)) (by decide) rfl ?_
  intro p e s m args below meth c s₁ Bd hml hv
  obtain ⟨ha, hE, hH⟩ := hv
  have hx := Bd.exec
  have hb := Bd.bytes
  have hr := Bd.returns
  have hts : ∀ w ∈ lw_g, w.before args s = true := fun w hw => atoms_spec (ws := (.code y_Mo_session b_Mo_session 8 (some .int) :: lw_g)) Bd.pre w (List.mem_cons_of_mem _ hw)
  have hown : s.vm.findClass R_Mo = some m.cls := findClass_of_methodNamed Bd.named
  have hlocks := Bd.notSynchronized
  have hK := hE.1
  have hH0 := hH
  have hLo : hLc G.P [] := hLc_nil
  have hz : s.heap.size ≤ s.heap.size := Nat.le_refl _
  have hkp : kp [mo, aTa, aAt, aLo, aPl, aPa, aSt, aBy] h h := kp_rf
  have hl := lv_entry [.ref mo, .int fv, .int nu] (n := 8) (Nat.le_of_ble_eq_true rfl)
  rw [show entryFrame m args 8 = F0 m 0 ((lg_sl [.ref mo, .int fv, .int nu] ++ List.replicate (8 - (lg_sl [.ref mo, .int fv, .int nu]).length) Slot.unset).toArray) [] from (by rw [ha]; exact lg_entry_eq m [.ref mo, .int fv, .int nu] 8)]
  generalize (lg_sl [.ref mo, .int fv, .int nu] ++ List.replicate (8 - (lg_sl [.ref mo, .int fv, .int nu]).length) Slot.unset).toArray = ls at hl ⊢
  have hl : lv_has ls 8 [(0, .ref mo), (1, .int fv), (2, .int nu)] := hl
  subst hfi
  refine lv_aload_n hx hb d_Mo_session_0 rfl (lv_at hl 0 rfl) ?_
  refine lv_iload_n hx hb d_Mo_session_1 rfl (lv_at hl 1 rfl) ?_
  refine hm_calli (va_runV (As := [.int (nI fi)]) (b := mo) (rest := []) ⟨hx, hb, hml, hown, hts⟩ (c_m_frontOf l D t G ak av h mo n aBy aSt aDe aPa aIt aId aPr aNa aSi aSe aIw aEx aOl aPl aTa aAt aLo aS1 aS2 aS3 aS4 aS5 aS6 aO1 aO2 aO3 aO4 aO5 0 0 gSt fi (nI fi) f_m f_aSt rfl hfi2 hz9 hn) ⟨cw9B 1 hts mw_528 mw_529 mw_428 rfl rfl (by decide +kernel) ⟨Nat.le_of_ble_eq_true rfl, Nat.le_of_ble_eq_true rfl⟩, hts _ mw_530, hts _ mw_531⟩ (hP_V (q := (R_Mo, F_Mo, 41)) kE_ok hE hK hH f_m rfl) rfl rfl hl.1 rfl (lv_room (Nat.le_of_ble_eq_true rfl)) d_Mo_session_2 ⟨Nat.le_of_ble_eq_true rfl, Nat.le_of_ble_eq_true rfl⟩) hLo (fun r1 h2 H3 locs hp5 hH z4 hLo => ?_)
  have hz : s.heap.size ≤ H3.size := Nat.le_trans hz z4
  obtain ⟨rfl, rfl⟩ := hp5
  refine lv_istore_n (lv' := [(3, .int 0), (0, .ref mo), (1, .int (nI fi)), (2, .int nu)]) hx hb d_Mo_session_5 rfl hl (by decide) rfl (fun ls hl => ?_)
  refine lv_aload_n hx hb d_Mo_session_6 rfl (lv_at hl 1 rfl) ?_
  refine lv_iload_n hx hb d_Mo_session_7 rfl (lv_at hl 0 rfl) ?_
  refine hm_calli (va_runV (As := [.int 0]) (b := mo) (rest := []) ⟨hx, hb, hml, hown, hts⟩ (c_m_measure l D t G ak av h mo n aBy aSt aDe aPa aIt aId aPr aNa aSi aSe aIw aEx aOl aPl aTa aAt aLo aS1 aS2 aS3 aS4 aS5 aS6 aO1 aO2 aO3 aO4 aO5 0 0 gTa gAt gLo f_m f_aTa f_aAt f_aLo ne_aAt_aLo) ⟨cw9B 1 hts mw_532 mw_533 mw_428 rfl rfl (by decide +kernel) ⟨Nat.le_of_ble_eq_true rfl, Nat.le_of_ble_eq_true rfl⟩, hts _ mw_534, hts _ mw_535⟩ (hP_V (q := (R_Mo, F_Mo, 41)) kE_ok hE hK hH f_m rfl) rfl rfl hl.1 rfl (lv_room (Nat.le_of_ble_eq_true rfl)) d_Mo_session_8 ⟨Nat.le_of_ble_eq_true rfl, Nat.le_of_ble_eq_true rfl⟩) hLo (fun r6 h7 H8 locs hp10 hH z9 hLo => ?_)
  have hz : s.heap.size ≤ H8.size := Nat.le_trans hz z9
  obtain ⟨rfl, hk9, hm9, gT, gA, gL, hg1, hg2, hg3, hta, hat⟩ := hp10
  have f_aSt : h7 aSt = some (.inl ((t 0), 400, .inl gSt)) := kp_at hk9 f_aSt (nmc (h_neA f_aSt f_m) (nmc (h_neL (k1 := 400) (k2 := 30) f_aSt f_aTa rfl rfl (by omega)) (nmc (h_neL (k1 := 400) (k2 := 700) f_aSt f_aAt rfl rfl (by omega)) (nmc (h_neL (k1 := 400) (k2 := 700) f_aSt f_aLo rfl rfl (by omega)) nm0))))
  have f_aBy : h7 aBy = some (.inl ((t 0), 819200, .inl gBy)) := kp_at hk9 f_aBy (nmc (h_neA f_aBy f_m) (nmc (h_neL (k1 := 819200) (k2 := 30) f_aBy f_aTa rfl rfl (by omega)) (nmc (h_neL (k1 := 819200) (k2 := 700) f_aBy f_aAt rfl rfl (by omega)) (nmc (h_neL (k1 := 819200) (k2 := 700) f_aBy f_aLo rfl rfl (by omega)) nm0))))
  have f_aPa : h7 aPa = some (.inl ((t 0), 2048, .inl gPa)) := kp_at hk9 f_aPa (nmc (h_neA f_aPa f_m) (nmc (h_neL (k1 := 2048) (k2 := 30) f_aPa f_aTa rfl rfl (by omega)) (nmc (h_neL (k1 := 2048) (k2 := 700) f_aPa f_aAt rfl rfl (by omega)) (nmc (h_neL (k1 := 2048) (k2 := 700) f_aPa f_aLo rfl rfl (by omega)) nm0))))
  have f_aDe : h7 aDe = some (.inl ((t 1), 200, .inl gDe)) := kp_at hk9 f_aDe (nmc (h_neA f_aDe f_m) (nmc (h_neL (k1 := 200) (k2 := 30) f_aDe f_aTa rfl rfl (by omega)) (nmc (h_neL (k1 := 200) (k2 := 700) f_aDe f_aAt rfl rfl (by omega)) (nmc (h_neL (k1 := 200) (k2 := 700) f_aDe f_aLo rfl rfl (by omega)) nm0))))
  have f_aPl : h7 aPl = some (.inl ((t 0), 163840, .inl gPl)) := kp_at hk9 f_aPl (nmc (h_neA f_aPl f_m) (nmc (h_neL (k1 := 163840) (k2 := 30) f_aPl f_aTa rfl rfl (by omega)) (nmc (h_neL (k1 := 163840) (k2 := 700) f_aPl f_aAt rfl rfl (by omega)) (nmc (h_neL (k1 := 163840) (k2 := 700) f_aPl f_aLo rfl rfl (by omega)) nm0))))
  have f_aId : h7 aId = some (.inl ((t 1), 700, .inl gId)) := kp_at hk9 f_aId (nmc (h_neA f_aId f_m) (nmc (h_neL (k1 := 700) (k2 := 30) f_aId f_aTa rfl rfl (by omega)) (nmc ne_aId_aAt (nmc ne_aId_aLo nm0))))
  have hkp : kp [mo, aTa, aAt, aLo, aPl, aPa, aSt, aBy] h h7 := kp_tr2 hkp hk9 (List.forall_mem_cons.mpr ⟨Or.inl (by simp), List.forall_mem_cons.mpr ⟨Or.inl (by simp), List.forall_mem_cons.mpr ⟨Or.inl (by simp), List.forall_mem_cons.mpr ⟨Or.inl (by simp), List.forall_mem_nil _⟩⟩⟩⟩)
  have f_m : h7 mo = some (.inr (9, [.int 0, .int (nI n), .int 0, .ref aBy, .ref aSt, .ref aDe, .int 0, .int (-1), .int 0, .ref aPa, .int 1, .ref aIt, .ref aId, .ref aPr, .ref aNa, .ref aSi, .ref aSe, .ref aIw, .ref aEx, .ref aOl, .int 0, .ref aPl, .int 1, .int 0, .ref aTa, .ref aAt, .ref aLo, .int 0, .int 0, .ref aS1, .ref aS2, .ref aS3, .ref aS4, .ref aS5, .ref aS6, .int 0, .ref aO1, .ref aO2, .ref aO3, .ref aO4, .ref aO5])) := hm9
  have f_aTa : h7 aTa = some (.inl ((t 2), 30, .inl gT)) := hg1
  have f_aAt : h7 aAt = some (.inl ((t 2), 700, .inl gA)) := hg2
  have f_aLo : h7 aLo = some (.inl ((t 2), 700, .inl gL)) := hg3
  refine lv_istore (lv' := [(4, .int 22), (3, .int 0), (0, .ref mo), (1, .int (nI fi)), (2, .int nu)]) hx hb d_Mo_session_11 hl (by decide) rfl (fun ls hl => ?_)
  refine lv_iload_n hx hb d_Mo_session_13 rfl (lv_at hl 1 rfl) ?_
  refine lv_iload hx hb d_Mo_session_14 (lv_at hl 0 rfl) ?_
  refine lv_iadd hx hb d_Mo_session_16 ?_
  refine lv_aload_n hx hb d_Mo_session_17 rfl (lv_at hl 2 rfl) ?_
  refine hm_get (ci := 9) (v := .int (nI n)) (C := R_Mo) (T := F_Mo) (N := 41) hx hb hts ig_Mo hown hK hH f_m rfl 1 (by decide) (hts _ mw_425) (fun _ h9 => h9) rfl d_Mo_session_18 ?_
  refine lv_icmp_le (tgt := 27) hx hb d_Mo_session_21 (by decide) (fun hc11 => ?_) (fun hc11 => absurd (se_le hn40 hn) hc11)
  refine lv_aload_n hx hb d_Mo_session_27 rfl (lv_at hl 2 rfl) ?_
  refine lv_iload_n hx hb d_Mo_session_28 rfl (lv_at hl 1 rfl) ?_
  refine lv_iload hx hb d_Mo_session_29 (lv_at hl 0 rfl) ?_
  refine lv_iload_n hx hb d_Mo_session_31 rfl (lv_at hl 4 rfl) ?_
  refine hm_callv (va_runV (As := [.int 0, .int 22, .int nu]) (b := mo) (rest := []) ⟨hx, hb, hml, hown, hts⟩ (c_m_design l D t G ak av h7 mo n aBy aSt aDe aPa aIt aId aPr aNa aSi aSe aIw aEx aOl aPl aTa aAt aLo aS1 aS2 aS3 aS4 aS5 aS6 aO1 aO2 aO3 aO4 aO5 0 gPl gId gT gA gL nu f_m f_aPl f_aId f_aTa f_aAt f_aLo zId hta hat ne_aId_aAt ne_aId_aLo ne_aAt_aLo) ⟨cw9B 3 hts mw_536 mw_537 mw_428 rfl rfl (by decide +kernel) ⟨Nat.le_of_ble_eq_true rfl, Nat.le_of_ble_eq_true rfl⟩, hts _ mw_538, hts _ mw_539⟩ (hP_V (q := (R_Mo, F_Mo, 41)) kE_ok hE hK hH f_m rfl) rfl rfl hl.1 rfl (lv_room (Nat.le_of_ble_eq_true rfl)) d_Mo_session_32 ⟨Nat.le_of_ble_eq_true rfl, Nat.le_of_ble_eq_true rfl⟩) hLo (fun h12 H13 locs hp15 hH z14 hLo => ?_)
  have hz : s.heap.size ≤ H13.size := Nat.le_trans hz z14
  obtain ⟨hk9, g16, hg9⟩ := hp15
  have f_m : h12 mo = some (.inr (9, [.int 0, .int (nI n), .int 0, .ref aBy, .ref aSt, .ref aDe, .int 0, .int (-1), .int 0, .ref aPa, .int 1, .ref aIt, .ref aId, .ref aPr, .ref aNa, .ref aSi, .ref aSe, .ref aIw, .ref aEx, .ref aOl, .int 0, .ref aPl, .int 1, .int 0, .ref aTa, .ref aAt, .ref aLo, .int 0, .int 0, .ref aS1, .ref aS2, .ref aS3, .ref aS4, .ref aS5, .ref aS6, .int 0, .ref aO1, .ref aO2, .ref aO3, .ref aO4, .ref aO5])) := kp_at hk9 f_m (nmc (Ne.symm (h_neA f_aPl f_m)) nm0)
  have f_aSt : h12 aSt = some (.inl ((t 0), 400, .inl gSt)) := kp_at hk9 f_aSt (nmc (h_neL (k1 := 400) (k2 := 163840) f_aSt f_aPl rfl rfl (by omega)) nm0)
  have f_aBy : h12 aBy = some (.inl ((t 0), 819200, .inl gBy)) := kp_at hk9 f_aBy (nmc (h_neL (k1 := 819200) (k2 := 163840) f_aBy f_aPl rfl rfl (by omega)) nm0)
  have f_aPa : h12 aPa = some (.inl ((t 0), 2048, .inl gPa)) := kp_at hk9 f_aPa (nmc (h_neL (k1 := 2048) (k2 := 163840) f_aPa f_aPl rfl rfl (by omega)) nm0)
  have f_aDe : h12 aDe = some (.inl ((t 1), 200, .inl gDe)) := kp_at hk9 f_aDe (nmc (h_neL (k1 := 200) (k2 := 163840) f_aDe f_aPl rfl rfl (by omega)) nm0)
  have f_aId : h12 aId = some (.inl ((t 1), 700, .inl gId)) := kp_at hk9 f_aId (nmc (h_neL (k1 := 700) (k2 := 163840) f_aId f_aPl rfl rfl (by omega)) nm0)
  have f_aTa : h12 aTa = some (.inl ((t 2), 30, .inl gT)) := kp_at hk9 f_aTa (nmc (h_neL (k1 := 30) (k2 := 163840) f_aTa f_aPl rfl rfl (by omega)) nm0)
  have f_aAt : h12 aAt = some (.inl ((t 2), 700, .inl gA)) := kp_at hk9 f_aAt (nmc (h_neL (k1 := 700) (k2 := 163840) f_aAt f_aPl rfl rfl (by omega)) nm0)
  have f_aLo : h12 aLo = some (.inl ((t 2), 700, .inl gL)) := kp_at hk9 f_aLo (nmc (h_neL (k1 := 700) (k2 := 163840) f_aLo f_aPl rfl rfl (by omega)) nm0)
  have hkp : kp [mo, aTa, aAt, aLo, aPl, aPa, aSt, aBy] h h12 := kp_tr2 hkp hk9 (List.forall_mem_cons.mpr ⟨Or.inl (by simp), List.forall_mem_nil _⟩)
  have f_aPl : h12 aPl = some (.inl ((t 0), 163840, .inl g16)) := hg9
  refine lv_iconst (v := 0) hx hb d_Mo_session_35 (by decide) ?_
  refine lv_istore (lv' := [(5, .int 0), (4, .int 22), (3, .int 0), (0, .ref mo), (1, .int (nI fi)), (2, .int nu)]) hx hb d_Mo_session_36 hl (by decide) rfl (fun ls hl => ?_)
  refine lv_bipush (v := 16) hx hb d_Mo_session_38 (by decide) ?_
  refine lv_topi (fun v17 e18 => ?_)
  obtain rfl : v17 = nI 16 := e18.trans (by decide)
  refine lv_istore (lv' := [(6, .int (nI 16)), (5, .int 0), (4, .int 22), (3, .int 0), (0, .ref mo), (1, .int (nI fi)), (2, .int nu)]) hx hb d_Mo_session_40 hl (by decide) rfl (fun ls hl => ?_)
  refine hm_loop (fun k ls H locs hh => ∃ (k9 : Nat) (wt9 : Int32) (g7 : Nat → Int32) (g8 : Nat → Int32) (g5 : Nat → Int32), k = 22 - k9 ∧ lv_has ls 8 [(6, .int (nI k9)), (5, .int 0), (4, .int 22), (3, .int 0), (0, .ref mo), (1, .int (nI fi)), (2, .int nu)] ∧ hm D vwCl G hh H ∧ s.heap.size ≤ H.size ∧ hLc G.P locs ∧ kp [mo, aTa, aAt, aLo, aPl, aPa, aSt, aBy] h hh ∧ hh mo = some (.inr (9, [.int 0, .int (nI n), .int 0, .ref aBy, .ref aSt, .ref aDe, .int 0, .int (-1), .int wt9, .ref aPa, .int 1, .ref aIt, .ref aId, .ref aPr, .ref aNa, .ref aSi, .ref aSe, .ref aIw, .ref aEx, .ref aOl, .int 0, .ref aPl, .int 1, .int 0, .ref aTa, .ref aAt, .ref aLo, .int 0, .int 0, .ref aS1, .ref aS2, .ref aS3, .ref aS4, .ref aS5, .ref aS6, .int 0, .ref aO1, .ref aO2, .ref aO3, .ref aO4, .ref aO5])) ∧ hh aSt = some (.inl ((t 0), 400, .inl g7)) ∧ hh aBy = some (.inl ((t 0), 819200, .inl g8)) ∧ hh aPa = some (.inl ((t 0), 2048, .inl g5)) ∧ hh aDe = some (.inl ((t 1), 200, .inl gDe)) ∧ hh aPl = some (.inl ((t 0), 163840, .inl g16)) ∧ (16 ≤ k9) ∧ (k9 ≤ 22)) ?_ (hh := h12) ⟨16, 0, gSt, gBy, gPa, rfl, (lv_sub hl [0, 1, 2, 3, 4, 5, 6] rfl), hH, hz, hLo, hkp, f_m, f_aSt, f_aBy, f_aPa, f_aDe, f_aPl, by omega, by omega⟩
  rintro k ls H locs hh ⟨k9, wt9, g7, g8, g5, hk, hl, hH, hz, hLo, hkp, f_m, f_aSt, f_aBy, f_aPa, f_aDe, f_aPl, hk9, hk8⟩ ih
  refine lv_iload hx hb d_Mo_session_42 (lv_at hl 0 rfl) ?_
  refine lv_iload hx hb d_Mo_session_44 (lv_at hl 2 rfl) ?_
  refine lv_icmp_ge (tgt := 112) hx hb d_Mo_session_46 (by decide) (fun hc19 => ?_) (fun hc19 => ?_)
  · skip
    refine lv_iload hx hb d_Mo_session_112 (lv_at hl 1 rfl) ?_
    refine lv_iconst (v := 2) hx hb d_Mo_session_114 (by decide) ?_
    refine lv_icmp_ne (tgt := 121) hx hb d_Mo_session_115 (by decide) (fun hc20 => ?_) (fun hc20 => absurd hc20 (by decide))
    refine lv_iload hx hb d_Mo_session_121 (lv_at hl 1 rfl) ?_
    refine lv_if_ne (tgt := 128) hx hb d_Mo_session_123 (by decide) (fun hc21 => absurd rfl hc21) (fun hc21 => ?_)
    refine lv_iload_n hx hb d_Mo_session_126 rfl (lv_at hl 6 rfl) ?_
    exact W.iret (v := nu) hx hb hr (fun t9 ht hW => ⟨nu, hh, rfl, ⟨rfl, hkp, wt9, f_m⟩, by rw [ht]; exact hH, by rw [ht]; exact hz⟩) hLo d_Mo_session_127
  · skip
    have hk1 : k9 < 22 := (nI_ltI (by omega) (by decide)).mp (Int32.not_le.mp hc19)
    refine lv_iload hx hb d_Mo_session_49 (lv_at hl 1 rfl) ?_
    refine lv_if_ne (tgt := 112) hx hb d_Mo_session_51 (by decide) (fun hc22 => absurd rfl hc22) (fun hc22 => ?_)
    refine lv_iconst (v := 0) hx hb d_Mo_session_54 (by decide) ?_
    refine lv_topi (fun v23 e24 => ?_)
    obtain rfl : v23 = nI 0 := e24.trans (by decide)
    refine lv_istore (lv' := [(7, .int (nI 0)), (6, .int (nI k9)), (5, .int 0), (4, .int 22), (3, .int 0), (0, .ref mo), (1, .int (nI fi)), (2, .int nu)]) hx hb d_Mo_session_55 hl (by decide) rfl (fun ls hl => ?_)
    refine hm_loop (fun k2 ls H locs hh2 => ∃ (j9 : Nat) (g6 : Nat → Int32), k2 = 2048 - j9 ∧ lv_has ls 8 [(7, .int (nI j9)), (6, .int (nI k9)), (5, .int 0), (4, .int 22), (3, .int 0), (0, .ref mo), (1, .int (nI fi)), (2, .int nu)] ∧ hm D vwCl G hh2 H ∧ s.heap.size ≤ H.size ∧ hLc G.P locs ∧ kp [mo, aTa, aAt, aLo, aPl, aPa, aSt, aBy] h hh2 ∧ hh2 mo = some (.inr (9, [.int 0, .int (nI n), .int 0, .ref aBy, .ref aSt, .ref aDe, .int 0, .int (-1), .int wt9, .ref aPa, .int 1, .ref aIt, .ref aId, .ref aPr, .ref aNa, .ref aSi, .ref aSe, .ref aIw, .ref aEx, .ref aOl, .int 0, .ref aPl, .int 1, .int 0, .ref aTa, .ref aAt, .ref aLo, .int 0, .int 0, .ref aS1, .ref aS2, .ref aS3, .ref aS4, .ref aS5, .ref aS6, .int 0, .ref aO1, .ref aO2, .ref aO3, .ref aO4, .ref aO5])) ∧ hh2 aSt = some (.inl ((t 0), 400, .inl g7)) ∧ hh2 aBy = some (.inl ((t 0), 819200, .inl g8)) ∧ hh2 aPa = some (.inl ((t 0), 2048, .inl g6)) ∧ hh2 aDe = some (.inl ((t 1), 200, .inl gDe)) ∧ hh2 aPl = some (.inl ((t 0), 163840, .inl g16)) ∧ (j9 ≤ 2048)) ?_ (hh := hh) ⟨0, g5, rfl, (lv_sub hl [0, 1, 2, 3, 4, 5, 6, 7] rfl), hH, hz, hLo, hkp, f_m, f_aSt, f_aBy, f_aPa, f_aDe, f_aPl, by omega⟩
    rintro k2 ls H locs hh2 ⟨j9, g6, hk2, hl, hH, hz, hLo, hkp, f_m, f_aSt, f_aBy, f_aPa, f_aDe, f_aPl, hj9⟩ ih2
    refine lv_iload hx hb d_Mo_session_57 (lv_at hl 0 rfl) ?_
    refine lv_sipush (v := 2048) hx hb d_Mo_session_59 (by decide) ?_
    refine lv_icmp_ge (tgt := 95) hx hb d_Mo_session_62 (by decide) (fun hc25 => ?_) (fun hc25 => ?_)
    · skip
      refine lv_aload_n hx hb d_Mo_session_95 rfl (lv_at hl 5 rfl) ?_
      refine lv_iload_n hx hb d_Mo_session_96 rfl (lv_at hl 6 rfl) ?_
      refine lv_iload_n hx hb d_Mo_session_97 rfl (lv_at hl 4 rfl) ?_
      refine lv_iload hx hb d_Mo_session_98 (lv_at hl 1 rfl) ?_
      refine lv_iadd hx hb d_Mo_session_100 ?_
      refine hm_calli (va_runV (As := [.int (nI fi), .int (0 + (nI k9))]) (b := mo) (rest := []) ⟨hx, hb, hml, hown, hts⟩ (c_m_burn l D t G ak av hh2 mo n aBy aSt aDe aPa aIt aId aPr aNa aSi aSe aIw aEx aOl aPl aTa aAt aLo aS1 aS2 aS3 aS4 aS5 aS6 aO1 aO2 aO3 aO4 aO5 wt9 g7 g8 g6 gDe fi k9 (nI fi) (0 + nI k9) f_m f_aSt f_aBy f_aPa f_aDe zDe rfl hfi2 (Int32.zero_add _) (by omega)) ⟨cw9B 2 hts mw_540 mw_541 mw_428 rfl rfl (by decide +kernel) ⟨Nat.le_of_ble_eq_true rfl, Nat.le_of_ble_eq_true rfl⟩, hts _ mw_542, hts _ mw_543⟩ (hP_V (q := (R_Mo, F_Mo, 41)) kE_ok hE hK hH f_m rfl) rfl rfl hl.1 rfl (lv_room (Nat.le_of_ble_eq_true rfl)) d_Mo_session_101 ⟨Nat.le_of_ble_eq_true rfl, Nat.le_of_ble_eq_true rfl⟩) hLo (fun r26 h27 H28 locs hp30 hH z29 hLo => ?_)
      have hz : s.heap.size ≤ H28.size := Nat.le_trans hz z29
      obtain ⟨rfl, hk9_, hm9, gS1, gB1, hg1, hg2⟩ := hp30
      have f_aPa : h27 aPa = some (.inl ((t 0), 2048, .inl g6)) := kp_at hk9_ f_aPa (nmc (h_neA f_aPa f_m) (nmc (h_neL (k1 := 2048) (k2 := 400) f_aPa f_aSt rfl rfl (by omega)) (nmc (h_neL (k1 := 2048) (k2 := 819200) f_aPa f_aBy rfl rfl (by omega)) nm0)))
      have f_aDe : h27 aDe = some (.inl ((t 1), 200, .inl gDe)) := kp_at hk9_ f_aDe (nmc (h_neA f_aDe f_m) (nmc (h_neL (k1 := 200) (k2 := 400) f_aDe f_aSt rfl rfl (by omega)) (nmc (h_neL (k1 := 200) (k2 := 819200) f_aDe f_aBy rfl rfl (by omega)) nm0)))
      have f_aPl : h27 aPl = some (.inl ((t 0), 163840, .inl g16)) := kp_at hk9_ f_aPl (nmc (h_neA f_aPl f_m) (nmc (h_neL (k1 := 163840) (k2 := 400) f_aPl f_aSt rfl rfl (by omega)) (nmc (h_neL (k1 := 163840) (k2 := 819200) f_aPl f_aBy rfl rfl (by omega)) nm0)))
      have hkp : kp [mo, aTa, aAt, aLo, aPl, aPa, aSt, aBy] h h27 := kp_tr2 hkp hk9_ (List.forall_mem_cons.mpr ⟨Or.inl (by simp), List.forall_mem_cons.mpr ⟨Or.inl (by simp), List.forall_mem_cons.mpr ⟨Or.inl (by simp), List.forall_mem_nil _⟩⟩⟩)
      have f_m : h27 mo = some (.inr (9, [.int 0, .int (nI n), .int 0, .ref aBy, .ref aSt, .ref aDe, .int 0, .int (-1), .int (wt9 + 1), .ref aPa, .int 1, .ref aIt, .ref aId, .ref aPr, .ref aNa, .ref aSi, .ref aSe, .ref aIw, .ref aEx, .ref aOl, .int 0, .ref aPl, .int 1, .int 0, .ref aTa, .ref aAt, .ref aLo, .int 0, .int 0, .ref aS1, .ref aS2, .ref aS3, .ref aS4, .ref aS5, .ref aS6, .int 0, .ref aO1, .ref aO2, .ref aO3, .ref aO4, .ref aO5])) := hm9
      have f_aSt : h27 aSt = some (.inl ((t 0), 400, .inl gS1)) := hg1
      have f_aBy : h27 aBy = some (.inl ((t 0), 819200, .inl gB1)) := hg2
      refine lv_istore (lv' := [(5, .int 0), (7, .int (nI j9)), (6, .int (nI k9)), (4, .int 22), (3, .int 0), (0, .ref mo), (1, .int (nI fi)), (2, .int nu)]) hx hb d_Mo_session_104 hl (by decide) rfl (fun ls hl => ?_)
      refine lv_iinc (v := nI (k9 + 1)) (lv' := [(6, .int (nI (k9 + 1))), (5, .int 0), (7, .int (nI j9)), (4, .int 22), (3, .int 0), (0, .ref mo), (1, .int (nI fi)), (2, .int nu)]) hx hb d_Mo_session_106 hl (k := 2) rfl (nI_1 k9) (by decide) rfl (fun ls hl => ?_)
      refine lv_goto (tgt := 42) hx hb d_Mo_session_109 (by decide) ?_
      exact ih (22 - (k9 + 1)) ls _ locs _ (by rw [hk]; omega) ⟨(k9 + 1), _, _, _, _, rfl, (lv_sub hl [0, 1, 3, 4, 5, 6, 7] rfl), hH, hz, hLo, hkp, f_m, f_aSt, f_aBy, f_aPa, f_aDe, f_aPl, by omega, by omega⟩
    · skip
      have hj1 : j9 < 2048 := (nI_ltI (by omega) (by omega)).mp (Int32.not_le.mp hc25)
      refine lv_aload_n hx hb d_Mo_session_65 rfl (lv_at hl 5 rfl) ?_
      refine hm_get (ci := 9) (v := .ref aPa) (C := R_Mo) (T := F_Mo) (N := 41) hx hb hts ig_Mo hown hK hH f_m rfl 9 (by decide) (hts _ mw_404) (fun _ h9 => h9) rfl d_Mo_session_66 ?_
      refine lv_iload hx hb d_Mo_session_69 (lv_at hl 0 rfl) ?_
      refine lv_aload_n hx hb d_Mo_session_71 rfl (lv_at hl 5 rfl) ?_
      refine hm_get (ci := 9) (v := .ref aPl) (C := R_Mo) (T := F_Mo) (N := 41) hx hb hts ig_Mo hown hK hH f_m rfl 21 (by decide) (hts _ mw_410) (fun _ h9 => h9) rfl d_Mo_session_72 ?_
      refine lv_sipush (v := 2048) hx hb d_Mo_session_75 (by decide) ?_
      refine lv_iload hx hb d_Mo_session_78 (lv_at hl 1 rfl) ?_
      refine lv_bipush (v := 16) hx hb d_Mo_session_80 (by decide) ?_
      refine lv_isub hx hb d_Mo_session_82 ?_
      refine lv_imul hx hb d_Mo_session_83 ?_
      refine lv_iload hx hb d_Mo_session_84 (lv_at hl 0 rfl) ?_
      refine lv_iadd hx hb d_Mo_session_86 ?_
      refine hj_bald hx hb hK hH 0 f_aPl rfl (2048 * (k9 - 16) + j9) (ix8 _ hk9) (by omega) (by decide) d_Mo_session_87 ?_
      refine hj_bast hx hb hK hH hLo 0 f_aPa rfl j9 rfl (by omega) (by decide) d_Mo_session_88 (fun H31 locs hH z32 hLo => ?_)
      have hz : s.heap.size ≤ H31.size := by rw [z32]; exact hz
      obtain ⟨h33, e34⟩ : ∃ z, z = hu hh2 aPa (.inl ((t 0), 2048, .inl (upd g6 j9 (vp_nar .byte (g16 (2048 * (k9 - 16) + j9)))))) := ⟨_, rfl⟩
      have hH : hm D vwCl G h33 H31 := by rw [e34]; exact hH
      have f_m : h33 mo = some (.inr (9, [.int 0, .int (nI n), .int 0, .ref aBy, .ref aSt, .ref aDe, .int 0, .int (-1), .int wt9, .ref aPa, .int 1, .ref aIt, .ref aId, .ref aPr, .ref aNa, .ref aSi, .ref aSe, .ref aIw, .ref aEx, .ref aOl, .int 0, .ref aPl, .int 1, .int 0, .ref aTa, .ref aAt, .ref aLo, .int 0, .int 0, .ref aS1, .ref aS2, .ref aS3, .ref aS4, .ref aS5, .ref aS6, .int 0, .ref aO1, .ref aO2, .ref aO3, .ref aO4, .ref aO5])) := by rw [e34, hu_n (Ne.symm (h_neA f_aPa f_m))]; exact f_m
      have f_aSt : h33 aSt = some (.inl ((t 0), 400, .inl g7)) := by rw [e34, hu_n (h_neL (k1 := 400) (k2 := 2048) f_aSt f_aPa rfl rfl (by omega))]; exact f_aSt
      have f_aBy : h33 aBy = some (.inl ((t 0), 819200, .inl g8)) := by rw [e34, hu_n (h_neL (k1 := 819200) (k2 := 2048) f_aBy f_aPa rfl rfl (by omega))]; exact f_aBy
      have f_aDe : h33 aDe = some (.inl ((t 1), 200, .inl gDe)) := by rw [e34, hu_n (h_neL (k1 := 200) (k2 := 2048) f_aDe f_aPa rfl rfl (by omega))]; exact f_aDe
      have f_aPl : h33 aPl = some (.inl ((t 0), 163840, .inl g16)) := by rw [e34, hu_n (h_neL (k1 := 163840) (k2 := 2048) f_aPl f_aPa rfl rfl (by omega))]; exact f_aPl
      have f_aPa : h33 aPa = some (.inl ((t 0), 2048, .inl (upd g6 j9 (vp_nar .byte (g16 (2048 * (k9 - 16) + j9)))))) := by rw [e34]; exact hu_s _ _ _
      have hkp : kp [mo, aTa, aAt, aLo, aPl, aPa, aSt, aBy] h h33 := by rw [e34]; exact kp_put hkp (by simp)
      refine lv_iinc (v := nI (j9 + 1)) (lv' := [(7, .int (nI (j9 + 1))), (6, .int (nI k9)), (5, .int 0), (4, .int 22), (3, .int 0), (0, .ref mo), (1, .int (nI fi)), (2, .int nu)]) hx hb d_Mo_session_89 hl (k := 0) rfl (nI_1 j9) (by decide) rfl (fun ls hl => ?_)
      refine lv_goto (tgt := 57) hx hb d_Mo_session_92 (by decide) ?_
      exact ih2 (2048 - (j9 + 1)) ls _ locs _ (by rw [hk2]; omega) ⟨(j9 + 1), _, rfl, (lv_sub hl [0, 1, 2, 3, 4, 5, 6, 7] rfl), hH, hz, hLo, hkp, f_m, f_aSt, f_aBy, f_aPa, f_aDe, f_aPl, by omega⟩
