set_option maxRecDepth 100000 in
theorem mw_544 : Cond.code y_Mo_session b_Mo_session 8 (some .int) ∈ lw_g := lw_gin (List.mem_append_right _ (List.mem_of_getElem? (i := 1143) rfl)) (by decide +kernel)
set_option maxRecDepth 100000 in
theorem mw_545 : Cond.methodLink R_Mo 250 y_Mo_session ∈ lw_g := lw_gin (List.mem_append_right _ (List.mem_of_getElem? (i := 1140) rfl)) (by decide +kernel)
set_option maxRecDepth 100000 in
theorem mw_546 : Cond.instanceMethod y_Mo_session ∈ lw_g := lw_gin (List.mem_append_right _ (List.mem_of_getElem? (i := 1142) rfl)) (by decide +kernel)
set_option maxRecDepth 100000 in
theorem mw_547 : Cond.selects R_Mo y_Mo_session y_Mo_session ∈ lw_g := lw_gin (List.mem_append_left _ (List.mem_of_getElem? (i := 39) rfl)) (by decide +kernel)
set_option maxRecDepth 100000 in
theorem mw_548 : Cond.constant R_Mo 253 (409600) ∈ lw_g := lw_gin (List.mem_append_right _ (List.mem_of_getElem? (i := 1214) rfl)) (by decide +kernel)
theorem d_Mo_commit_0 : decode b_Mo_commit 0 = .ok (.aload_n 0, 1) := by decide +kernel
theorem d_Mo_commit_1 : decode b_Mo_commit 1 = .ok (.iconst 0, 1) := by decide +kernel
theorem d_Mo_commit_2 : decode b_Mo_commit 2 = .ok (.putfield 109, 3) := by decide +kernel
theorem d_Mo_commit_5 : decode b_Mo_commit 5 = .ok (.aload_n 0, 1) := by decide +kernel
theorem d_Mo_commit_6 : decode b_Mo_commit 6 = .ok (.getfield 125, 3) := by decide +kernel
theorem d_Mo_commit_9 : decode b_Mo_commit 9 = .ok (.ifCond .eq 6, 3) := by decide +kernel
theorem d_Mo_commit_15 : decode b_Mo_commit 15 = .ok (.iconst 1, 1) := by decide +kernel
theorem d_Mo_commit_16 : decode b_Mo_commit 16 = .ok (.istore_n 1, 1) := by decide +kernel
theorem d_Mo_commit_17 : decode b_Mo_commit 17 = .ok (.iload_n 1, 1) := by decide +kernel
theorem d_Mo_commit_18 : decode b_Mo_commit 18 = .ok (.aload_n 0, 1) := by decide +kernel
theorem d_Mo_commit_19 : decode b_Mo_commit 19 = .ok (.getfield 112, 3) := by decide +kernel
theorem d_Mo_commit_22 : decode b_Mo_commit 22 = .ok (.if_icmp .ge 72, 3) := by decide +kernel
theorem d_Mo_commit_94 : decode b_Mo_commit 94 = .ok (.aload_n 0, 1) := by decide +kernel
theorem d_Mo_commit_95 : decode b_Mo_commit 95 = .ok (.aload_n 0, 1) := by decide +kernel
theorem d_Mo_commit_96 : decode b_Mo_commit 96 = .ok (.getfield 115, 3) := by decide +kernel
theorem d_Mo_commit_99 : decode b_Mo_commit 99 = .ok (.aload_n 0, 1) := by decide +kernel
theorem d_Mo_commit_100 : decode b_Mo_commit 100 = .ok (.getfield 247, 3) := by decide +kernel
theorem d_Mo_commit_103 : decode b_Mo_commit 103 = .ok (.iconst 1, 1) := by decide +kernel
theorem d_Mo_commit_104 : decode b_Mo_commit 104 = .ok (.iadd, 1) := by decide +kernel
theorem d_Mo_commit_105 : decode b_Mo_commit 105 = .ok (.invokevirtual 250, 3) := by decide +kernel
theorem d_Mo_commit_108 : decode b_Mo_commit 108 = .ok (.istore_n 1, 1) := by decide +kernel
theorem d_Mo_commit_109 : decode b_Mo_commit 109 = .ok (.iload_n 1, 1) := by decide +kernel
theorem d_Mo_commit_110 : decode b_Mo_commit 110 = .ok (.bipush (-4), 2) := by decide +kernel
theorem d_Mo_commit_112 : decode b_Mo_commit 112 = .ok (.if_icmp .eq 9, 3) := by decide +kernel
theorem d_Mo_commit_115 : decode b_Mo_commit 115 = .ok (.iload_n 1, 1) := by decide +kernel
theorem d_Mo_commit_116 : decode b_Mo_commit 116 = .ok (.bipush (-3), 2) := by decide +kernel
theorem d_Mo_commit_118 : decode b_Mo_commit 118 = .ok (.if_icmp .ne 5, 3) := by decide +kernel
theorem d_Mo_commit_123 : decode b_Mo_commit 123 = .ok (.aload_n 0, 1) := by decide +kernel
theorem d_Mo_commit_124 : decode b_Mo_commit 124 = .ok (.dup, 1) := by decide +kernel
theorem d_Mo_commit_125 : decode b_Mo_commit 125 = .ok (.getfield 247, 3) := by decide +kernel
theorem d_Mo_commit_128 : decode b_Mo_commit 128 = .ok (.iconst 1, 1) := by decide +kernel
theorem d_Mo_commit_129 : decode b_Mo_commit 129 = .ok (.iadd, 1) := by decide +kernel
theorem d_Mo_commit_130 : decode b_Mo_commit 130 = .ok (.putfield 247, 3) := by decide +kernel
theorem d_Mo_commit_133 : decode b_Mo_commit 133 = .ok (.aload_n 0, 1) := by decide +kernel
theorem d_Mo_commit_134 : decode b_Mo_commit 134 = .ok (.getfield 247, 3) := by decide +kernel
theorem d_Mo_commit_137 : decode b_Mo_commit 137 = .ok (.ireturn, 1) := by decide +kernel
theorem d_Mo_compact_0 : decode b_Mo_compact 0 = .ok (.aload_n 0, 1) := by decide +kernel
theorem d_Mo_compact_1 : decode b_Mo_compact 1 = .ok (.iconst 0, 1) := by decide +kernel
theorem d_Mo_compact_2 : decode b_Mo_compact 2 = .ok (.putfield 109, 3) := by decide +kernel
theorem d_Mo_compact_5 : decode b_Mo_compact 5 = .ok (.aload_n 0, 1) := by decide +kernel
theorem d_Mo_compact_6 : decode b_Mo_compact 6 = .ok (.getfield 125, 3) := by decide +kernel
theorem d_Mo_compact_9 : decode b_Mo_compact 9 = .ok (.ifCond .eq 6, 3) := by decide +kernel
theorem d_Mo_compact_15 : decode b_Mo_compact 15 = .ok (.sipush 200, 3) := by decide +kernel
theorem d_Mo_compact_18 : decode b_Mo_compact 18 = .ok (.aload_n 0, 1) := by decide +kernel
theorem d_Mo_compact_19 : decode b_Mo_compact 19 = .ok (.getfield 115, 3) := by decide +kernel
theorem d_Mo_compact_22 : decode b_Mo_compact 22 = .ok (.isub, 1) := by decide +kernel
theorem d_Mo_compact_23 : decode b_Mo_compact 23 = .ok (.istore_n 1, 1) := by decide +kernel
theorem d_Mo_compact_24 : decode b_Mo_compact 24 = .ok (.iconst 0, 1) := by decide +kernel
theorem d_Mo_compact_25 : decode b_Mo_compact 25 = .ok (.istore_n 2, 1) := by decide +kernel
theorem d_Mo_compact_26 : decode b_Mo_compact 26 = .ok (.iload_n 2, 1) := by decide +kernel
theorem d_Mo_compact_27 : decode b_Mo_compact 27 = .ok (.sipush 200, 3) := by decide +kernel
theorem d_Mo_compact_30 : decode b_Mo_compact 30 = .ok (.if_icmp .ge 18, 3) := by decide +kernel
theorem d_Mo_compact_48 : decode b_Mo_compact 48 = .ok (.iconst 0, 1) := by decide +kernel
theorem d_Mo_compact_49 : decode b_Mo_compact 49 = .ok (.istore_n 2, 1) := by decide +kernel
theorem d_Mo_compact_50 : decode b_Mo_compact 50 = .ok (.iload_n 2, 1) := by decide +kernel
theorem d_Mo_compact_51 : decode b_Mo_compact 51 = .ok (.ldc 253, 2) := by decide +kernel
theorem d_Mo_compact_53 : decode b_Mo_compact 53 = .ok (.if_icmp .ge 22, 3) := by decide +kernel
theorem d_Mo_compact_75 : decode b_Mo_compact 75 = .ok (.iconst 0, 1) := by decide +kernel
theorem d_Mo_compact_76 : decode b_Mo_compact 76 = .ok (.istore_n 2, 1) := by decide +kernel
theorem d_Mo_compact_77 : decode b_Mo_compact 77 = .ok (.iload_n 2, 1) := by decide +kernel
theorem d_Mo_compact_78 : decode b_Mo_compact 78 = .ok (.aload_n 0, 1) := by decide +kernel
theorem d_Mo_compact_79 : decode b_Mo_compact 79 = .ok (.getfield 112, 3) := by decide +kernel
theorem d_Mo_compact_82 : decode b_Mo_compact 82 = .ok (.if_icmp .ge 21, 3) := by decide +kernel
theorem d_Mo_compact_85 : decode b_Mo_compact 85 = .ok (.aload_n 0, 1) := by decide +kernel
theorem d_Mo_compact_86 : decode b_Mo_compact 86 = .ok (.getfield 50, 3) := by decide +kernel
theorem d_Mo_compact_89 : decode b_Mo_compact 89 = .ok (.iload_n 2, 1) := by decide +kernel
theorem d_Mo_compact_90 : decode b_Mo_compact 90 = .ok (.aload_n 0, 1) := by decide +kernel
theorem d_Mo_compact_91 : decode b_Mo_compact 91 = .ok (.getfield 47, 3) := by decide +kernel
theorem d_Mo_compact_94 : decode b_Mo_compact 94 = .ok (.iload_n 2, 1) := by decide +kernel
theorem d_Mo_compact_95 : decode b_Mo_compact 95 = .ok (.iaload, 1) := by decide +kernel
theorem d_Mo_compact_96 : decode b_Mo_compact 96 = .ok (.iastore, 1) := by decide +kernel
theorem d_Mo_compact_97 : decode b_Mo_compact 97 = .ok (.iinc 2 1, 3) := by decide +kernel
theorem d_Mo_compact_100 : decode b_Mo_compact 100 = .ok (.goto (-23), 3) := by decide +kernel
theorem d_Mo_compact_103 : decode b_Mo_compact 103 = .ok (.iconst 0, 1) := by decide +kernel
theorem d_Mo_compact_104 : decode b_Mo_compact 104 = .ok (.istore_n 2, 1) := by decide +kernel
theorem d_Mo_compact_105 : decode b_Mo_compact 105 = .ok (.iconst 1, 1) := by decide +kernel
theorem d_Mo_compact_106 : decode b_Mo_compact 106 = .ok (.istore_n 3, 1) := by decide +kernel
theorem d_Mo_compact_107 : decode b_Mo_compact 107 = .ok (.iload_n 3, 1) := by decide +kernel
theorem d_Mo_compact_108 : decode b_Mo_compact 108 = .ok (.aload_n 0, 1) := by decide +kernel
theorem d_Mo_compact_109 : decode b_Mo_compact 109 = .ok (.getfield 112, 3) := by decide +kernel
theorem d_Mo_compact_112 : decode b_Mo_compact 112 = .ok (.if_icmp .ge 53, 3) := by decide +kernel
theorem d_Mo_compact_165 : decode b_Mo_compact 165 = .ok (.iload_n 2, 1) := by decide +kernel
theorem d_Mo_compact_166 : decode b_Mo_compact 166 = .ok (.ifCond .ne 10, 3) := by decide +kernel
theorem d_Mo_compact_169 : decode b_Mo_compact 169 = .ok (.aload_n 0, 1) := by decide +kernel
theorem d_Mo_compact_170 : decode b_Mo_compact 170 = .ok (.iload_n 1, 1) := by decide +kernel
theorem d_Mo_compact_171 : decode b_Mo_compact 171 = .ok (.iconst 1, 1) := by decide +kernel
theorem d_Mo_compact_172 : decode b_Mo_compact 172 = .ok (.invokevirtual 250, 3) := by decide +kernel
theorem d_Mo_compact_175 : decode b_Mo_compact 175 = .ok (.istore_n 2, 1) := by decide +kernel
theorem d_Mo_compact_176 : decode b_Mo_compact 176 = .ok (.iload_n 2, 1) := by decide +kernel
theorem d_Mo_compact_177 : decode b_Mo_compact 177 = .ok (.iconst 1, 1) := by decide +kernel
theorem d_Mo_compact_178 : decode b_Mo_compact 178 = .ok (.if_icmp .eq 33, 3) := by decide +kernel
theorem d_Mo_compact_211 : decode b_Mo_compact 211 = .ok (.iconst 1, 1) := by decide +kernel
theorem d_Mo_compact_212 : decode b_Mo_compact 212 = .ok (.istore_n 3, 1) := by decide +kernel
theorem d_Mo_compact_213 : decode b_Mo_compact 213 = .ok (.iload_n 3, 1) := by decide +kernel
theorem d_Mo_compact_214 : decode b_Mo_compact 214 = .ok (.aload_n 0, 1) := by decide +kernel
theorem d_Mo_compact_215 : decode b_Mo_compact 215 = .ok (.getfield 112, 3) := by decide +kernel
theorem d_Mo_compact_218 : decode b_Mo_compact 218 = .ok (.if_icmp .ge 47, 3) := by decide +kernel
theorem d_Mo_compact_265 : decode b_Mo_compact 265 = .ok (.aload_n 0, 1) := by decide +kernel
theorem d_Mo_compact_266 : decode b_Mo_compact 266 = .ok (.iload_n 1, 1) := by decide +kernel
theorem d_Mo_compact_267 : decode b_Mo_compact 267 = .ok (.putfield 115, 3) := by decide +kernel
theorem d_Mo_compact_270 : decode b_Mo_compact 270 = .ok (.iconst 0, 1) := by decide +kernel
theorem d_Mo_compact_271 : decode b_Mo_compact 271 = .ok (.istore_n 3, 1) := by decide +kernel
theorem d_Mo_compact_272 : decode b_Mo_compact 272 = .ok (.iload_n 3, 1) := by decide +kernel
theorem d_Mo_compact_273 : decode b_Mo_compact 273 = .ok (.sipush 200, 3) := by decide +kernel
theorem d_Mo_compact_276 : decode b_Mo_compact 276 = .ok (.if_icmp .ge 16, 3) := by decide +kernel
theorem d_Mo_compact_292 : decode b_Mo_compact 292 = .ok (.aload_n 0, 1) := by decide +kernel
theorem d_Mo_compact_293 : decode b_Mo_compact 293 = .ok (.iconst 1, 1) := by decide +kernel
theorem d_Mo_compact_294 : decode b_Mo_compact 294 = .ok (.putfield 247, 3) := by decide +kernel
theorem d_Mo_compact_297 : decode b_Mo_compact 297 = .ok (.aload_n 0, 1) := by decide +kernel
theorem d_Mo_compact_298 : decode b_Mo_compact 298 = .ok (.iconst 0, 1) := by decide +kernel
theorem d_Mo_compact_299 : decode b_Mo_compact 299 = .ok (.putfield 254, 3) := by decide +kernel
theorem d_Mo_compact_302 : decode b_Mo_compact 302 = .ok (.iconst 1, 1) := by decide +kernel
theorem d_Mo_compact_303 : decode b_Mo_compact 303 = .ok (.ireturn, 1) := by decide +kernel
theorem d_Mo_compact_279 : decode b_Mo_compact 279 = .ok (.aload_n 0, 1) := by decide +kernel
theorem d_Mo_compact_280 : decode b_Mo_compact 280 = .ok (.getfield 17, 3) := by decide +kernel
theorem d_Mo_compact_283 : decode b_Mo_compact 283 = .ok (.iload_n 3, 1) := by decide +kernel
theorem d_Mo_compact_284 : decode b_Mo_compact 284 = .ok (.iconst 0, 1) := by decide +kernel
theorem d_Mo_compact_285 : decode b_Mo_compact 285 = .ok (.bastore, 1) := by decide +kernel
theorem d_Mo_compact_286 : decode b_Mo_compact 286 = .ok (.iinc 3 1, 3) := by decide +kernel
theorem d_Mo_compact_289 : decode b_Mo_compact 289 = .ok (.goto (-17), 3) := by decide +kernel
theorem d_Mo_compact_56 : decode b_Mo_compact 56 = .ok (.aload_n 0, 1) := by decide +kernel
theorem d_Mo_compact_57 : decode b_Mo_compact 57 = .ok (.getfield 8, 3) := by decide +kernel
theorem d_Mo_compact_60 : decode b_Mo_compact 60 = .ok (.sipush 2048, 3) := by decide +kernel
theorem d_Mo_compact_63 : decode b_Mo_compact 63 = .ok (.iload_n 1, 1) := by decide +kernel
theorem d_Mo_compact_64 : decode b_Mo_compact 64 = .ok (.imul, 1) := by decide +kernel
theorem d_Mo_compact_65 : decode b_Mo_compact 65 = .ok (.iload_n 2, 1) := by decide +kernel
theorem d_Mo_compact_66 : decode b_Mo_compact 66 = .ok (.iadd, 1) := by decide +kernel
theorem d_Mo_compact_67 : decode b_Mo_compact 67 = .ok (.iconst 0, 1) := by decide +kernel
theorem d_Mo_compact_68 : decode b_Mo_compact 68 = .ok (.bastore, 1) := by decide +kernel
theorem d_Mo_compact_69 : decode b_Mo_compact 69 = .ok (.iinc 2 1, 3) := by decide +kernel
theorem d_Mo_compact_72 : decode b_Mo_compact 72 = .ok (.goto (-22), 3) := by decide +kernel
theorem d_Mo_compact_33 : decode b_Mo_compact 33 = .ok (.aload_n 0, 1) := by decide +kernel
theorem d_Mo_compact_34 : decode b_Mo_compact 34 = .ok (.getfield 14, 3) := by decide +kernel
theorem d_Mo_compact_37 : decode b_Mo_compact 37 = .ok (.iload_n 1, 1) := by decide +kernel
theorem d_Mo_compact_38 : decode b_Mo_compact 38 = .ok (.iload_n 2, 1) := by decide +kernel
theorem d_Mo_compact_39 : decode b_Mo_compact 39 = .ok (.iadd, 1) := by decide +kernel
theorem d_Mo_compact_40 : decode b_Mo_compact 40 = .ok (.iconst 0, 1) := by decide +kernel
theorem d_Mo_compact_41 : decode b_Mo_compact 41 = .ok (.bastore, 1) := by decide +kernel
theorem d_Mo_compact_42 : decode b_Mo_compact 42 = .ok (.iinc 2 1, 3) := by decide +kernel
theorem d_Mo_compact_45 : decode b_Mo_compact 45 = .ok (.goto (-19), 3) := by decide +kernel
set_option maxHeartbeats 4000000 in
set_option maxRecDepth 100000 in
theorem c_m_commit (l : Launch) (D : va_G) (t : Nat → ClassId) (G : hG) (ak av : Nat → Nat) (h : hM) (mo n : Nat) (hM : FrM t h mo n) : Met l y_Mo_commit (.code y_Mo_commit b_Mo_commit 3 (some .int) :: lw_g) { frames := 6, cells := 0, slots := 0, locals := 156 } (hP (kE D t G ak av) D vwCl G h [.ref mo]) (hQi D vwCl G (fun r h' => r = 1)) 0 0 G.P := by
  refine Met.ofW (cc := b_Mo_commit) (maxL := 3) (ret := (some .int)) (by decide) rfl ?_
  intro p e s m args below meth c s₁ Bd hml hv
  obtain ⟨ha, hE, hH⟩ := hv
  have hx := Bd.exec
  have hb := Bd.bytes
  have hr := Bd.returns
  have hts : ∀ w ∈ lw_g, w.before args s = true := fun w hw => atoms_spec (ws := (.code y_Mo_commit b_Mo_commit 3 (some .int) :: lw_g)) Bd.pre w (List.mem_cons_of_mem _ hw)
  have hown : s.vm.findClass R_Mo = some m.cls := findClass_of_methodNamed Bd.named
  have hlocks := Bd.notSynchronized
  have hK := hE.1
  have hH0 := hH
  have hLo : hLc G.P [] := hLc_nil
  have hz : s.heap.size ≤ s.heap.size := Nat.le_refl _
  have hkp : kp [] h h := kp_rf
  have hl := lv_entry [.ref mo] (n := 3) (Nat.le_of_ble_eq_true rfl)
  rw [show entryFrame m args 3 = F0 m 0 ((lg_sl [.ref mo] ++ List.replicate (3 - (lg_sl [.ref mo]).length) Slot.unset).toArray) [] from (by rw [ha]; exact lg_entry_eq m [.ref mo] 3)]
  generalize (lg_sl [.ref mo] ++ List.replicate (3 - (lg_sl [.ref mo]).length) Slot.unset).toArray = ls at hl ⊢
  have hl : lv_has ls 3 [(0, .ref mo)] := hl
  refine FrM_elim hM ?_
  intro aBy aSt aDe aPa aIt aId aPr aNa aSi aSe aIw aEx aOl aPl aTa aAt aLo aS1 aS2 aS3 aS4 aS5 aS6 aO1 aO2 aO3 aO4 aO5 gBy gSt gDe gPa gIt gId gPr gSi gSe gIw gEx gOl gPl gTa gAt gLo gNa f_m f_aBy f_aSt f_aDe f_aPa f_aIt f_aId f_aPr f_aNa f_aSi f_aSe f_aIw f_aEx f_aOl f_aPl f_aTa f_aAt f_aLo zBy zSt zDe zIt zId zPr zSi zSe zEx ne_aIt_aId ne_aIt_aPr ne_aIt_aSi ne_aIt_aSe ne_aIt_aEx ne_aId_aPr ne_aId_aSi ne_aId_aSe ne_aId_aEx ne_aPr_aSi ne_aPr_aSe ne_aPr_aEx ne_aSi_aSe ne_aSi_aEx ne_aSe_aEx ne_aId_aAt ne_aId_aLo ne_aAt_aLo ne_aId_aOl ne_aIt_aIw ne_aId_aIw ne_aPr_aIw ne_aSi_aIw ne_aSe_aIw ne_aIw_aEx ne_aEx_aOl ne_aOl_aAt ne_aOl_aLo hn40 hn
  refine lv_aload_n hx hb d_Mo_commit_0 rfl (lv_at hl 0 rfl) ?_
  refine lv_iconst (v := 0) hx hb d_Mo_commit_1 (by decide) ?_
  refine hm_put (ci := 9) (v := .int 0) (ty := .int) (C := R_Mo) (T := F_Mo) (N := 41) hx hb hts ig_Mo t_Mo tk_Mo nm_Mo hown hK hH hLo f_m rfl 0 (by decide) (hts _ mw_432) (fun _ h9 => h9) rfl (by decide +kernel) rfl rfl (Nat.le_of_ble_eq_true rfl) d_Mo_commit_2 (fun H1 locs hH z2 hLo => ?_)
  have hz : s.heap.size ≤ H1.size := by rw [z2]; exact hz
  obtain ⟨h3, e4⟩ : ∃ z, z = hu h mo (.inr (9, [.int 0, .int (nI n), .int 0, .ref aBy, .ref aSt, .ref aDe, .int 0, .int (-1), .int 0, .ref aPa, .int 1, .ref aIt, .ref aId, .ref aPr, .ref aNa, .ref aSi, .ref aSe, .ref aIw, .ref aEx, .ref aOl, .int 0, .ref aPl, .int 0, .int 0, .ref aTa, .ref aAt, .ref aLo, .int 0, .int 0, .ref aS1, .ref aS2, .ref aS3, .ref aS4, .ref aS5, .ref aS6, .int 0, .ref aO1, .ref aO2, .ref aO3, .ref aO4, .ref aO5])) := ⟨_, rfl⟩
  have hH : hm D vwCl G h3 H1 := by rw [e4]; exact hH
  have f_aSt : h3 aSt = some (.inl ((t 0), 400, .inl gSt)) := by rw [e4, hu_n (h_neA f_aSt f_m)]; exact f_aSt
  have f_aBy : h3 aBy = some (.inl ((t 0), 819200, .inl gBy)) := by rw [e4, hu_n (h_neA f_aBy f_m)]; exact f_aBy
  have f_aPa : h3 aPa = some (.inl ((t 0), 2048, .inl gPa)) := by rw [e4, hu_n (h_neA f_aPa f_m)]; exact f_aPa
  have f_aDe : h3 aDe = some (.inl ((t 1), 200, .inl gDe)) := by rw [e4, hu_n (h_neA f_aDe f_m)]; exact f_aDe
  have f_aPl : h3 aPl = some (.inl ((t 0), 163840, .inl gPl)) := by rw [e4, hu_n (h_neA f_aPl f_m)]; exact f_aPl
  have f_aId : h3 aId = some (.inl ((t 1), 700, .inl gId)) := by rw [e4, hu_n (h_neA f_aId f_m)]; exact f_aId
  have f_aTa : h3 aTa = some (.inl ((t 2), 30, .inl gTa)) := by rw [e4, hu_n (h_neA f_aTa f_m)]; exact f_aTa
  have f_aAt : h3 aAt = some (.inl ((t 2), 700, .inl gAt)) := by rw [e4, hu_n (h_neA f_aAt f_m)]; exact f_aAt
  have f_aLo : h3 aLo = some (.inl ((t 2), 700, .inl gLo)) := by rw [e4, hu_n (h_neA f_aLo f_m)]; exact f_aLo
  have f_m : h3 mo = some (.inr (9, [.int 0, .int (nI n), .int 0, .ref aBy, .ref aSt, .ref aDe, .int 0, .int (-1), .int 0, .ref aPa, .int 1, .ref aIt, .ref aId, .ref aPr, .ref aNa, .ref aSi, .ref aSe, .ref aIw, .ref aEx, .ref aOl, .int 0, .ref aPl, .int 0, .int 0, .ref aTa, .ref aAt, .ref aLo, .int 0, .int 0, .ref aS1, .ref aS2, .ref aS3, .ref aS4, .ref aS5, .ref aS6, .int 0, .ref aO1, .ref aO2, .ref aO3, .ref aO4, .ref aO5])) := by rw [e4]; exact hu_s _ _ _
  refine lv_aload_n hx hb d_Mo_commit_5 rfl (lv_at hl 0 rfl) ?_
  refine hm_get (ci := 9) (v := .int 0) (C := R_Mo) (T := F_Mo) (N := 41) hx hb hts ig_Mo hown hK hH f_m rfl 6 (by decide) (hts _ mw_440) (fun _ h9 => h9) rfl d_Mo_commit_6 ?_
  refine lv_if_eq (tgt := 15) hx hb d_Mo_commit_9 (by decide) (fun hc5 => ?_) (fun hc5 => absurd rfl hc5)
  refine lv_iconst (v := 1) hx hb d_Mo_commit_15 (by decide) ?_
  refine lv_istore_n (lv' := [(1, .int 1), (0, .ref mo)]) hx hb d_Mo_commit_16 rfl hl (by decide) rfl (fun ls hl => ?_)
  refine lv_iload_n hx hb d_Mo_commit_17 rfl (lv_at hl 0 rfl) ?_
  refine lv_aload_n hx hb d_Mo_commit_18 rfl (lv_at hl 1 rfl) ?_
  refine hm_get (ci := 9) (v := .int 1) (C := R_Mo) (T := F_Mo) (N := 41) hx hb hts ig_Mo hown hK hH f_m rfl 10 (by decide) (hts _ mw_390) (fun _ h9 => h9) rfl d_Mo_commit_19 ?_
  refine lv_icmp_ge (tgt := 94) hx hb d_Mo_commit_22 (by decide) (fun hc6 => ?_) (fun hc6 => absurd (by decide) hc6)
  refine lv_aload_n hx hb d_Mo_commit_94 rfl (lv_at hl 1 rfl) ?_
  refine lv_aload_n hx hb d_Mo_commit_95 rfl (lv_at hl 1 rfl) ?_
  refine hm_get (ci := 9) (v := .int 0) (C := R_Mo) (T := F_Mo) (N := 41) hx hb hts ig_Mo hown hK hH f_m rfl 2 (by decide) (hts _ mw_467) (fun _ h9 => h9) rfl d_Mo_commit_96 ?_
  refine lv_aload_n hx hb d_Mo_commit_99 rfl (lv_at hl 1 rfl) ?_
  refine hm_get (ci := 9) (v := .int 0) (C := R_Mo) (T := F_Mo) (N := 41) hx hb hts ig_Mo hown hK hH f_m rfl 20 (by decide) (hts _ mw_487) (fun _ h9 => h9) rfl d_Mo_commit_100 ?_
  refine lv_iconst (v := 1) hx hb d_Mo_commit_103 (by decide) ?_
  refine lv_iadd hx hb d_Mo_commit_104 ?_
  refine hm_calli (va_runV (As := [.int 0, .int (0 + 1)]) (b := mo) (rest := []) ⟨hx, hb, hml, hown, hts⟩ (c_m_session l D t G ak av h3 mo n aBy aSt aDe aPa aIt aId aPr aNa aSi aSe aIw aEx aOl aPl aTa aAt aLo aS1 aS2 aS3 aS4 aS5 aS6 aO1 aO2 aO3 aO4 aO5 gSt gBy gPa gDe gPl gId gTa gAt gLo 0 0 (0 + 1) f_m f_aSt f_aBy f_aPa f_aDe f_aPl f_aId f_aTa f_aAt f_aLo zDe zId (by decide) (by decide) (fun j _ => zSt _) hn40 hn ne_aId_aAt ne_aId_aLo ne_aAt_aLo) ⟨cw9B 2 hts mw_544 mw_545 mw_428 rfl rfl (by decide +kernel) ⟨Nat.le_of_ble_eq_true rfl, Nat.le_of_ble_eq_true rfl⟩, hts _ mw_546, hts _ mw_547⟩ (hP_V (q := (R_Mo, F_Mo, 41)) kE_ok hE hK hH f_m rfl) rfl rfl hl.1 rfl (lv_room (Nat.le_of_ble_eq_true rfl)) d_Mo_commit_105 ⟨Nat.le_of_ble_eq_true rfl, Nat.le_of_ble_eq_true rfl⟩) hLo (fun r7 h8 H9 locs hp11 hH z10 hLo => ?_)
  have hz : s.heap.size ≤ H9.size := Nat.le_trans hz z10
  obtain ⟨rfl, hk9, wt9, hm9⟩ := hp11
  have f_m : h8 mo = some (.inr (9, [.int 0, .int (nI n), .int 0, .ref aBy, .ref aSt, .ref aDe, .int 0, .int (-1), .int wt9, .ref aPa, .int 1, .ref aIt, .ref aId, .ref aPr, .ref aNa, .ref aSi, .ref aSe, .ref aIw, .ref aEx, .ref aOl, .int 0, .ref aPl, .int 1, .int 0, .ref aTa, .ref aAt, .ref aLo, .int 0, .int 0, .ref aS1, .ref aS2, .ref aS3, .ref aS4, .ref aS5, .ref aS6, .int 0, .ref aO1, .ref aO2, .ref aO3, .ref aO4, .ref aO5])) := hm9
  refine lv_istore_n (lv' := [(1, .int (0 + 1)), (0, .ref mo)]) hx hb d_Mo_commit_108 rfl hl (by decide) rfl (fun ls hl => ?_)
  refine lv_iload_n hx hb d_Mo_commit_109 rfl (lv_at hl 0 rfl) ?_
  refine lv_bipush (v := -4) hx hb d_Mo_commit_110 (by decide) ?_
  refine lv_icmp_eq (tgt := 121) hx hb d_Mo_commit_112 (by decide) (fun hc12 => absurd hc12 (by decide)) (fun hc12 => ?_)
  refine lv_iload_n hx hb d_Mo_commit_115 rfl (lv_at hl 0 rfl) ?_
  refine lv_bipush (v := -3) hx hb d_Mo_commit_116 (by decide) ?_
  refine lv_icmp_ne (tgt := 123) hx hb d_Mo_commit_118 (by decide) (fun hc13 => ?_) (fun hc13 => absurd hc13 (by decide))
  refine lv_aload_n hx hb d_Mo_commit_123 rfl (lv_at hl 1 rfl) ?_
  refine lv_dup hx hb d_Mo_commit_124 rfl ?_
  refine hm_get (ci := 9) (v := .int 0) (C := R_Mo) (T := F_Mo) (N := 41) hx hb hts ig_Mo hown hK hH f_m rfl 20 (by decide) (hts _ mw_487) (fun _ h9 => h9) rfl d_Mo_commit_125 ?_
  refine lv_iconst (v := 1) hx hb d_Mo_commit_128 (by decide) ?_
  refine lv_iadd hx hb d_Mo_commit_129 ?_
  refine hm_put (ci := 9) (v := .int (0 + 1)) (ty := .int) (C := R_Mo) (T := F_Mo) (N := 41) hx hb hts ig_Mo t_Mo tk_Mo nm_Mo hown hK hH hLo f_m rfl 20 (by decide) (hts _ mw_487) (fun _ h9 => h9) rfl (by decide +kernel) rfl rfl (Nat.le_of_ble_eq_true rfl) d_Mo_commit_130 (fun H14 locs hH z15 hLo => ?_)
  have hz : s.heap.size ≤ H14.size := by rw [z15]; exact hz
  obtain ⟨h16, e17⟩ : ∃ z, z = hu h8 mo (.inr (9, [.int 0, .int (nI n), .int 0, .ref aBy, .ref aSt, .ref aDe, .int 0, .int (-1), .int wt9, .ref aPa, .int 1, .ref aIt, .ref aId, .ref aPr, .ref aNa, .ref aSi, .ref aSe, .ref aIw, .ref aEx, .ref aOl, .int (0 + 1), .ref aPl, .int 1, .int 0, .ref aTa, .ref aAt, .ref aLo, .int 0, .int 0, .ref aS1, .ref aS2, .ref aS3, .ref aS4, .ref aS5, .ref aS6, .int 0, .ref aO1, .ref aO2, .ref aO3, .ref aO4, .ref aO5])) := ⟨_, rfl⟩
  have hH : hm D vwCl G h16 H14 := by rw [e17]; exact hH
  have f_m : h16 mo = some (.inr (9, [.int 0, .int (nI n), .int 0, .ref aBy, .ref aSt, .ref aDe, .int 0, .int (-1), .int wt9, .ref aPa, .int 1, .ref aIt, .ref aId, .ref aPr, .ref aNa, .ref aSi, .ref aSe, .ref aIw, .ref aEx, .ref aOl, .int (0 + 1), .ref aPl, .int 1, .int 0, .ref aTa, .ref aAt, .ref aLo, .int 0, .int 0, .ref aS1, .ref aS2, .ref aS3, .ref aS4, .ref aS5, .ref aS6, .int 0, .ref aO1, .ref aO2, .ref aO3, .ref aO4, .ref aO5])) := by rw [e17]; exact hu_s _ _ _
  refine lv_aload_n hx hb d_Mo_commit_133 rfl (lv_at hl 1 rfl) ?_
  refine hm_get (ci := 9) (v := .int (0 + 1)) (C := R_Mo) (T := F_Mo) (N := 41) hx hb hts ig_Mo hown hK hH f_m rfl 20 (by decide) (hts _ mw_487) (fun _ h9 => h9) rfl d_Mo_commit_134 ?_
  exact W.iret (v := 0 + 1) hx hb hr (fun t9 ht hW => ⟨0 + 1, h16, rfl, (show (0 + 1 : Int32) = 1 by decide), by rw [ht]; exact hH, by rw [ht]; exact hz⟩) hLo d_Mo_commit_137

set_option maxHeartbeats 4000000 in
set_option maxRecDepth 100000 in
theorem c_m_compact (l : Launch) (D : va_G) (t : Nat → ClassId) (G : hG) (ak av : Nat → Nat) (h : hM) (mo n : Nat) (hM : FrM t h mo n) : Met l y_Mo_compact (.code y_Mo_compact b_Mo_compact 4 (some .int) :: lw_g) { frames := 6, cells := 0, slots := 0, locals := 156 } (hP (kE D t G ak av) D vwCl G h [.ref mo]) (hQi D vwCl G (fun r h' => r = 1)) 0 0 G.P := by
  refine Met.ofW (cc := b_Mo_compact) (maxL := 4) (ret := (some .int)) (by decide) rfl ?_
  intro p e s m args below meth c s₁ Bd hml hv
  obtain ⟨ha, hE, hH⟩ := hv
  have hx := Bd.exec
  have hb := Bd.bytes
  have hr := Bd.returns
  have hts : ∀ w ∈ lw_g, w.before args s = true := fun w hw => atoms_spec (ws := (.code y_Mo_compact b_Mo_compact 4 (some .int) :: lw_g)) Bd.pre w (List.mem_cons_of_mem _ hw)
  have hown : s.vm.findClass R_Mo = some m.cls := findClass_of_methodNamed Bd.named
  have hlocks := Bd.notSynchronized
  have hK := hE.1
  have hH0 := hH
  have hLo : hLc G.P [] := hLc_nil
  have hz : s.heap.size ≤ s.heap.size := Nat.le_refl _
  have hkp : kp [] h h := kp_rf
  have hl := lv_entry [.ref mo] (n := 4) (Nat.le_of_ble_eq_true rfl)
  rw [show entryFrame m args 4 = F0 m 0 ((lg_sl [.ref mo] ++ List.replicate (4 - (lg_sl [.ref mo]).length) Slot.unset).toArray) [] from (by rw [ha]; exact lg_entry_eq m [.ref mo] 4)]
  generalize (lg_sl [.ref mo] ++ List.replicate (4 - (lg_sl [.ref mo]).length) Slot.unset).toArray = ls at hl ⊢
  have hl : lv_has ls 4 [(0, .ref mo)] := hl
  refine FrM_elim hM ?_
  intro aBy aSt aDe aPa aIt aId aPr aNa aSi aSe aIw aEx aOl aPl aTa aAt aLo aS1 aS2 aS3 aS4 aS5 aS6 aO1 aO2 aO3 aO4 aO5 gBy gSt gDe gPa gIt gId gPr gSi gSe gIw gEx gOl gPl gTa gAt gLo gNa f_m f_aBy f_aSt f_aDe f_aPa f_aIt f_aId f_aPr f_aNa f_aSi f_aSe f_aIw f_aEx f_aOl f_aPl f_aTa f_aAt f_aLo zBy zSt zDe zIt zId zPr zSi zSe zEx ne_aIt_aId ne_aIt_aPr ne_aIt_aSi ne_aIt_aSe ne_aIt_aEx ne_aId_aPr ne_aId_aSi ne_aId_aSe ne_aId_aEx ne_aPr_aSi ne_aPr_aSe ne_aPr_aEx ne_aSi_aSe ne_aSi_aEx ne_aSe_aEx ne_aId_aAt ne_aId_aLo ne_aAt_aLo ne_aId_aOl ne_aIt_aIw ne_aId_aIw ne_aPr_aIw ne_aSi_aIw ne_aSe_aIw ne_aIw_aEx ne_aEx_aOl ne_aOl_aAt ne_aOl_aLo hn40 hn
  refine lv_aload_n hx hb d_Mo_compact_0 rfl (lv_at hl 0 rfl) ?_
  refine lv_iconst (v := 0) hx hb d_Mo_compact_1 (by decide) ?_
  refine hm_put (ci := 9) (v := .int 0) (ty := .int) (C := R_Mo) (T := F_Mo) (N := 41) hx hb hts ig_Mo t_Mo tk_Mo nm_Mo hown hK hH hLo f_m rfl 0 (by decide) (hts _ mw_432) (fun _ h9 => h9) rfl (by decide +kernel) rfl rfl (Nat.le_of_ble_eq_true rfl) d_Mo_compact_2 (fun H1 locs hH z2 hLo => ?_)
  have hz : s.heap.size ≤ H1.size := by rw [z2]; exact hz
  obtain ⟨h3, e4⟩ : ∃ z, z = hu h mo (.inr (9, [.int 0, .int (nI n), .int 0, .ref aBy, .ref aSt, .ref aDe, .int 0, .int (-1), .int 0, .ref aPa, .int 1, .ref aIt, .ref aId, .ref aPr, .ref aNa, .ref aSi, .ref aSe, .ref aIw, .ref aEx, .ref aOl, .int 0, .ref aPl, .int 0, .int 0, .ref aTa, .ref aAt, .ref aLo, .int 0, .int 0, .ref aS1, .ref aS2, .ref aS3, .ref aS4, .ref aS5, .ref aS6, .int 0, .ref aO1, .ref aO2, .ref aO3, .ref aO4, .ref aO5])) := ⟨_, rfl⟩
  have hH : hm D vwCl G h3 H1 := by rw [e4]; exact hH
  have f_aSt : h3 aSt = some (.inl ((t 0), 400, .inl gSt)) := by rw [e4, hu_n (h_neA f_aSt f_m)]; exact f_aSt
  have f_aBy : h3 aBy = some (.inl ((t 0), 819200, .inl gBy)) := by rw [e4, hu_n (h_neA f_aBy f_m)]; exact f_aBy
  have f_aPa : h3 aPa = some (.inl ((t 0), 2048, .inl gPa)) := by rw [e4, hu_n (h_neA f_aPa f_m)]; exact f_aPa
  have f_aDe : h3 aDe = some (.inl ((t 1), 200, .inl gDe)) := by rw [e4, hu_n (h_neA f_aDe f_m)]; exact f_aDe
  have f_aPl : h3 aPl = some (.inl ((t 0), 163840, .inl gPl)) := by rw [e4, hu_n (h_neA f_aPl f_m)]; exact f_aPl
  have f_aId : h3 aId = some (.inl ((t 1), 700, .inl gId)) := by rw [e4, hu_n (h_neA f_aId f_m)]; exact f_aId
  have f_aTa : h3 aTa = some (.inl ((t 2), 30, .inl gTa)) := by rw [e4, hu_n (h_neA f_aTa f_m)]; exact f_aTa
  have f_aAt : h3 aAt = some (.inl ((t 2), 700, .inl gAt)) := by rw [e4, hu_n (h_neA f_aAt f_m)]; exact f_aAt
  have f_aLo : h3 aLo = some (.inl ((t 2), 700, .inl gLo)) := by rw [e4, hu_n (h_neA f_aLo f_m)]; exact f_aLo
  have f_aEx : h3 aEx = some (.inl ((t 2), 700, .inl gEx)) := by rw [e4, hu_n (h_neA f_aEx f_m)]; exact f_aEx
  have f_aOl : h3 aOl = some (.inl ((t 2), 700, .inl gOl)) := by rw [e4, hu_n (h_neA f_aOl f_m)]; exact f_aOl
  have f_m : h3 mo = some (.inr (9, [.int 0, .int (nI n), .int 0, .ref aBy, .ref aSt, .ref aDe, .int 0, .int (-1), .int 0, .ref aPa, .int 1, .ref aIt, .ref aId, .ref aPr, .ref aNa, .ref aSi, .ref aSe, .ref aIw, .ref aEx, .ref aOl, .int 0, .ref aPl, .int 0, .int 0, .ref aTa, .ref aAt, .ref aLo, .int 0, .int 0, .ref aS1, .ref aS2, .ref aS3, .ref aS4, .ref aS5, .ref aS6, .int 0, .ref aO1, .ref aO2, .ref aO3, .ref aO4, .ref aO5])) := by rw [e4]; exact hu_s _ _ _
  refine lv_aload_n hx hb d_Mo_compact_5 rfl (lv_at hl 0 rfl) ?_
  refine hm_get (ci := 9) (v := .int 0) (C := R_Mo) (T := F_Mo) (N := 41) hx hb hts ig_Mo hown hK hH f_m rfl 6 (by decide) (hts _ mw_440) (fun _ h9 => h9) rfl d_Mo_compact_6 ?_
  refine lv_if_eq (tgt := 15) hx hb d_Mo_compact_9 (by decide) (fun hc5 => ?_) (fun hc5 => absurd rfl hc5)
  refine lv_sipush (v := 200) hx hb d_Mo_compact_15 (by decide) ?_
  refine lv_aload_n hx hb d_Mo_compact_18 rfl (lv_at hl 0 rfl) ?_
  refine hm_get (ci := 9) (v := .int 0) (C := R_Mo) (T := F_Mo) (N := 41) hx hb hts ig_Mo hown hK hH f_m rfl 2 (by decide) (hts _ mw_467) (fun _ h9 => h9) rfl d_Mo_compact_19 ?_
  refine lv_isub hx hb d_Mo_compact_22 ?_
  refine lv_topi (fun v6 e7 => ?_)
  obtain rfl : v6 = nI 200 := e7.trans (by decide)
  refine lv_istore_n (lv' := [(1, .int (nI 200)), (0, .ref mo)]) hx hb d_Mo_compact_23 rfl hl (by decide) rfl (fun ls hl => ?_)
  refine lv_iconst (v := 0) hx hb d_Mo_compact_24 (by decide) ?_
  refine lv_topi (fun v8 e9 => ?_)
  obtain rfl : v8 = nI 0 := e9.trans (by decide)
  refine lv_istore_n (lv' := [(2, .int (nI 0)), (1, .int (nI 200)), (0, .ref mo)]) hx hb d_Mo_compact_25 rfl hl (by decide) rfl (fun ls hl => ?_)
  refine hm_loop (fun k ls H locs hh => ∃ (k9 : Nat) (g7 : Nat → Int32), k = 200 - k9 ∧ lv_has ls 4 [(2, .int (nI k9)), (0, .ref mo), (1, .int (nI 200))] ∧ hm D vwCl G hh H ∧ s.heap.size ≤ H.size ∧ hLc G.P locs ∧ hh mo = some (.inr (9, [.int 0, .int (nI n), .int 0, .ref aBy, .ref aSt, .ref aDe, .int 0, .int (-1), .int 0, .ref aPa, .int 1, .ref aIt, .ref aId, .ref aPr, .ref aNa, .ref aSi, .ref aSe, .ref aIw, .ref aEx, .ref aOl, .int 0, .ref aPl, .int 0, .int 0, .ref aTa, .ref aAt, .ref aLo, .int 0, .int 0, .ref aS1, .ref aS2, .ref aS3, .ref aS4, .ref aS5, .ref aS6, .int 0, .ref aO1, .ref aO2, .ref aO3, .ref aO4, .ref aO5])) ∧ hh aSt = some (.inl ((t 0), 400, .inl g7)) ∧ hh aBy = some (.inl ((t 0), 819200, .inl gBy)) ∧ hh aPa = some (.inl ((t 0), 2048, .inl gPa)) ∧ hh aDe = some (.inl ((t 1), 200, .inl gDe)) ∧ hh aPl = some (.inl ((t 0), 163840, .inl gPl)) ∧ hh aId = some (.inl ((t 1), 700, .inl gId)) ∧ hh aTa = some (.inl ((t 2), 30, .inl gTa)) ∧ hh aAt = some (.inl ((t 2), 700, .inl gAt)) ∧ hh aLo = some (.inl ((t 2), 700, .inl gLo)) ∧ hh aEx = some (.inl ((t 2), 700, .inl gEx)) ∧ hh aOl = some (.inl ((t 2), 700, .inl gOl)) ∧ (k9 ≤ 200) ∧ (∀ j, g7 j = 0)) ?_ (hh := h3) ⟨0, gSt, rfl, (lv_sub hl [0, 2, 1] rfl), hH, hz, hLo, f_m, f_aSt, f_aBy, f_aPa, f_aDe, f_aPl, f_aId, f_aTa, f_aAt, f_aLo, f_aEx, f_aOl, by omega, zSt⟩
  rintro k ls H locs hh ⟨k9, g7, hk, hl, hH, hz, hLo, f_m, f_aSt, f_aBy, f_aPa, f_aDe, f_aPl, f_aId, f_aTa, f_aAt, f_aLo, f_aEx, f_aOl, hk9, hz9⟩ ih
  refine lv_iload_n hx hb d_Mo_compact_26 rfl (lv_at hl 0 rfl) ?_
  refine lv_sipush (v := 200) hx hb d_Mo_compact_27 (by decide) ?_
  refine lv_icmp_ge (tgt := 48) hx hb d_Mo_compact_30 (by decide) (fun hc10 => ?_) (fun hc10 => ?_)
  · skip
    refine lv_iconst (v := 0) hx hb d_Mo_compact_48 (by decide) ?_
    refine lv_topi (fun v11 e12 => ?_)
    obtain rfl : v11 = nI 0 := e12.trans (by decide)
    refine lv_istore_n (lv' := [(2, .int (nI 0)), (0, .ref mo), (1, .int (nI 200))]) hx hb d_Mo_compact_49 rfl hl (by decide) rfl (fun ls hl => ?_)
    refine hm_loop (fun k ls H locs hh => ∃ (k8 : Nat) (g8 : Nat → Int32), k = 409600 - k8 ∧ lv_has ls 4 [(2, .int (nI k8)), (0, .ref mo), (1, .int (nI 200))] ∧ hm D vwCl G hh H ∧ s.heap.size ≤ H.size ∧ hLc G.P locs ∧ hh mo = some (.inr (9, [.int 0, .int (nI n), .int 0, .ref aBy, .ref aSt, .ref aDe, .int 0, .int (-1), .int 0, .ref aPa, .int 1, .ref aIt, .ref aId, .ref aPr, .ref aNa, .ref aSi, .ref aSe, .ref aIw, .ref aEx, .ref aOl, .int 0, .ref aPl, .int 0, .int 0, .ref aTa, .ref aAt, .ref aLo, .int 0, .int 0, .ref aS1, .ref aS2, .ref aS3, .ref aS4, .ref aS5, .ref aS6, .int 0, .ref aO1, .ref aO2, .ref aO3, .ref aO4, .ref aO5])) ∧ hh aSt = some (.inl ((t 0), 400, .inl g7)) ∧ hh aBy = some (.inl ((t 0), 819200, .inl g8)) ∧ hh aPa = some (.inl ((t 0), 2048, .inl gPa)) ∧ hh aDe = some (.inl ((t 1), 200, .inl gDe)) ∧ hh aPl = some (.inl ((t 0), 163840, .inl gPl)) ∧ hh aId = some (.inl ((t 1), 700, .inl gId)) ∧ hh aTa = some (.inl ((t 2), 30, .inl gTa)) ∧ hh aAt = some (.inl ((t 2), 700, .inl gAt)) ∧ hh aLo = some (.inl ((t 2), 700, .inl gLo)) ∧ hh aEx = some (.inl ((t 2), 700, .inl gEx)) ∧ hh aOl = some (.inl ((t 2), 700, .inl gOl)) ∧ (k8 ≤ 409600)) ?_ (hh := hh) ⟨0, gBy, rfl, (lv_sub hl [0, 1, 2] rfl), hH, hz, hLo, f_m, f_aSt, f_aBy, f_aPa, f_aDe, f_aPl, f_aId, f_aTa, f_aAt, f_aLo, f_aEx, f_aOl, by omega⟩
    rintro k ls H locs hh ⟨k8, g8, hk, hl, hH, hz, hLo, f_m, f_aSt, f_aBy, f_aPa, f_aDe, f_aPl, f_aId, f_aTa, f_aAt, f_aLo, f_aEx, f_aOl, hk8⟩ ih
    refine lv_iload_n hx hb d_Mo_compact_50 rfl (lv_at hl 0 rfl) ?_
    refine lv_ldc (v := 409600) hx hb hown (hts _ mw_548) d_Mo_compact_51 ?_
    refine lv_topi (fun v13 e14 => ?_)
    obtain rfl : v13 = nI 409600 := e14.trans (by decide)
    refine lv_icmp_ge (tgt := 75) hx hb d_Mo_compact_53 (by decide) (fun hc15 => ?_) (fun hc15 => ?_)
    · skip
      refine lv_iconst (v := 0) hx hb d_Mo_compact_75 (by decide) ?_
      refine lv_istore_n (lv' := [(2, .int 0), (0, .ref mo), (1, .int (nI 200))]) hx hb d_Mo_compact_76 rfl hl (by decide) rfl (fun ls hl => ?_)
      refine lv_iload_n hx hb d_Mo_compact_77 rfl (lv_at hl 0 rfl) ?_
      refine lv_aload_n hx hb d_Mo_compact_78 rfl (lv_at hl 1 rfl) ?_
      refine hm_get (ci := 9) (v := .int 1) (C := R_Mo) (T := F_Mo) (N := 41) hx hb hts ig_Mo hown hK hH f_m rfl 10 (by decide) (hts _ mw_390) (fun _ h9 => h9) rfl d_Mo_compact_79 ?_
      refine lv_icmp_ge (tgt := 103) hx hb d_Mo_compact_82 (by decide) (fun hc16 => absurd hc16 (by decide)) (fun hc16 => ?_)
      refine lv_aload_n hx hb d_Mo_compact_85 rfl (lv_at hl 1 rfl) ?_
      refine hm_get (ci := 9) (v := .ref aOl) (C := R_Mo) (T := F_Mo) (N := 41) hx hb hts ig_Mo hown hK hH f_m rfl 19 (by decide) (hts _ mw_408) (fun _ h9 => h9) rfl d_Mo_compact_86 ?_
      refine lv_iload_n hx hb d_Mo_compact_89 rfl (lv_at hl 0 rfl) ?_
      refine lv_aload_n hx hb d_Mo_compact_90 rfl (lv_at hl 1 rfl) ?_
      refine hm_get (ci := 9) (v := .ref aEx) (C := R_Mo) (T := F_Mo) (N := 41) hx hb hts ig_Mo hown hK hH f_m rfl 18 (by decide) (hts _ mw_397) (fun _ h9 => h9) rfl d_Mo_compact_91 ?_
      refine lv_iload_n hx hb d_Mo_compact_94 rfl (lv_at hl 0 rfl) ?_
      refine hj_iald hx hb hK hH 2 f_aEx rfl 0 (by decide) (by decide) (by decide) d_Mo_compact_95 ?_
      refine hj_iast hx hb hK hH hLo 2 f_aOl rfl 0 (by decide) (by decide) (by decide) d_Mo_compact_96 (fun H17 locs hH z18 hLo => ?_)
      have hz : s.heap.size ≤ H17.size := by rw [z18]; exact hz
      obtain ⟨h19, e20⟩ : ∃ z, z = hu hh aOl (.inl ((t 2), 700, .inl (upd gOl 0 (gEx 0)))) := ⟨_, rfl⟩
      have hH : hm D vwCl G h19 H17 := by rw [e20]; exact hH
      have f_m : h19 mo = some (.inr (9, [.int 0, .int (nI n), .int 0, .ref aBy, .ref aSt, .ref aDe, .int 0, .int (-1), .int 0, .ref aPa, .int 1, .ref aIt, .ref aId, .ref aPr, .ref aNa, .ref aSi, .ref aSe, .ref aIw, .ref aEx, .ref aOl, .int 0, .ref aPl, .int 0, .int 0, .ref aTa, .ref aAt, .ref aLo, .int 0, .int 0, .ref aS1, .ref aS2, .ref aS3, .ref aS4, .ref aS5, .ref aS6, .int 0, .ref aO1, .ref aO2, .ref aO3, .ref aO4, .ref aO5])) := by rw [e20, hu_n (Ne.symm (h_neA f_aOl f_m))]; exact f_m
      have f_aSt : h19 aSt = some (.inl ((t 0), 400, .inl g7)) := by rw [e20, hu_n (h_neL (k1 := 400) (k2 := 700) f_aSt f_aOl rfl rfl (by omega))]; exact f_aSt
      have f_aBy : h19 aBy = some (.inl ((t 0), 819200, .inl g8)) := by rw [e20, hu_n (h_neL (k1 := 819200) (k2 := 700) f_aBy f_aOl rfl rfl (by omega))]; exact f_aBy
      have f_aPa : h19 aPa = some (.inl ((t 0), 2048, .inl gPa)) := by rw [e20, hu_n (h_neL (k1 := 2048) (k2 := 700) f_aPa f_aOl rfl rfl (by omega))]; exact f_aPa
      have f_aDe : h19 aDe = some (.inl ((t 1), 200, .inl gDe)) := by rw [e20, hu_n (h_neL (k1 := 200) (k2 := 700) f_aDe f_aOl rfl rfl (by omega))]; exact f_aDe
      have f_aPl : h19 aPl = some (.inl ((t 0), 163840, .inl gPl)) := by rw [e20, hu_n (h_neL (k1 := 163840) (k2 := 700) f_aPl f_aOl rfl rfl (by omega))]; exact f_aPl
      have f_aId : h19 aId = some (.inl ((t 1), 700, .inl gId)) := by rw [e20, hu_n ne_aId_aOl]; exact f_aId
      have f_aTa : h19 aTa = some (.inl ((t 2), 30, .inl gTa)) := by rw [e20, hu_n (h_neL (k1 := 30) (k2 := 700) f_aTa f_aOl rfl rfl (by omega))]; exact f_aTa
      have f_aAt : h19 aAt = some (.inl ((t 2), 700, .inl gAt)) := by rw [e20, hu_n (Ne.symm ne_aOl_aAt)]; exact f_aAt
      have f_aLo : h19 aLo = some (.inl ((t 2), 700, .inl gLo)) := by rw [e20, hu_n (Ne.symm ne_aOl_aLo)]; exact f_aLo
      have f_aEx : h19 aEx = some (.inl ((t 2), 700, .inl gEx)) := by rw [e20, hu_n ne_aEx_aOl]; exact f_aEx
      have f_aOl : h19 aOl = some (.inl ((t 2), 700, .inl (upd gOl 0 (gEx 0)))) := by rw [e20]; exact hu_s _ _ _
      refine lv_iinc (v := 0 + 1) (lv' := [(2, .int (0 + 1)), (0, .ref mo), (1, .int (nI 200))]) hx hb d_Mo_compact_97 hl (k := 0) rfl (by rfl) (by decide) rfl (fun ls hl => ?_)
      refine lv_goto (tgt := 77) hx hb d_Mo_compact_100 (by decide) ?_
      refine lv_iload_n hx hb d_Mo_compact_77 rfl (lv_at hl 0 rfl) ?_
      refine lv_aload_n hx hb d_Mo_compact_78 rfl (lv_at hl 1 rfl) ?_
      refine hm_get (ci := 9) (v := .int 1) (C := R_Mo) (T := F_Mo) (N := 41) hx hb hts ig_Mo hown hK hH f_m rfl 10 (by decide) (hts _ mw_390) (fun _ h9 => h9) rfl d_Mo_compact_79 ?_
      refine lv_icmp_ge (tgt := 103) hx hb d_Mo_compact_82 (by decide) (fun hc21 => ?_) (fun hc21 => absurd (by decide) hc21)
      refine lv_iconst (v := 0) hx hb d_Mo_compact_103 (by decide) ?_
      refine lv_istore_n (lv' := [(2, .int 0), (0, .ref mo), (1, .int (nI 200))]) hx hb d_Mo_compact_104 rfl hl (by decide) rfl (fun ls hl => ?_)
      refine lv_iconst (v := 1) hx hb d_Mo_compact_105 (by decide) ?_
      refine lv_istore_n (lv' := [(3, .int 1), (2, .int 0), (0, .ref mo), (1, .int (nI 200))]) hx hb d_Mo_compact_106 rfl hl (by decide) rfl (fun ls hl => ?_)
      refine lv_iload_n hx hb d_Mo_compact_107 rfl (lv_at hl 0 rfl) ?_
      refine lv_aload_n hx hb d_Mo_compact_108 rfl (lv_at hl 2 rfl) ?_
      refine hm_get (ci := 9) (v := .int 1) (C := R_Mo) (T := F_Mo) (N := 41) hx hb hts ig_Mo hown hK hH f_m rfl 10 (by decide) (hts _ mw_390) (fun _ h9 => h9) rfl d_Mo_compact_109 ?_
      refine lv_icmp_ge (tgt := 165) hx hb d_Mo_compact_112 (by decide) (fun hc22 => ?_) (fun hc22 => absurd (by decide) hc22)
      refine lv_iload_n hx hb d_Mo_compact_165 rfl (lv_at hl 1 rfl) ?_
      refine lv_if_ne (tgt := 176) hx hb d_Mo_compact_166 (by decide) (fun hc23 => absurd rfl hc23) (fun hc23 => ?_)
      refine lv_aload_n hx hb d_Mo_compact_169 rfl (lv_at hl 2 rfl) ?_
      refine lv_iload_n hx hb d_Mo_compact_170 rfl (lv_at hl 3 rfl) ?_
      refine lv_iconst (v := 1) hx hb d_Mo_compact_171 (by decide) ?_
      refine hm_calli (va_runV (As := [.int (nI 200), .int 1]) (b := mo) (rest := []) ⟨hx, hb, hml, hown, hts⟩ (c_m_session l D t G ak av h19 mo n aBy aSt aDe aPa aIt aId aPr aNa aSi aSe aIw aEx aOl aPl aTa aAt aLo aS1 aS2 aS3 aS4 aS5 aS6 aO1 aO2 aO3 aO4 aO5 g7 g8 gPa gDe gPl gId gTa gAt gLo 200 (nI 200) 1 f_m f_aSt f_aBy f_aPa f_aDe f_aPl f_aId f_aTa f_aAt f_aLo zDe zId (by decide) (by decide) (fun j _ => hz9 _) hn40 hn ne_aId_aAt ne_aId_aLo ne_aAt_aLo) ⟨cw9B 2 hts mw_544 mw_545 mw_428 rfl rfl (by decide +kernel) ⟨Nat.le_of_ble_eq_true rfl, Nat.le_of_ble_eq_true rfl⟩, hts _ mw_546, hts _ mw_547⟩ (hP_V (q := (R_Mo, F_Mo, 41)) kE_ok hE hK hH f_m rfl) rfl rfl hl.1 rfl (lv_room (Nat.le_of_ble_eq_true rfl)) d_Mo_compact_172 ⟨Nat.le_of_ble_eq_true rfl, Nat.le_of_ble_eq_true rfl⟩) hLo (fun r24 h25 H26 locs hp28 hH z27 hLo => ?_)
      have hz : s.heap.size ≤ H26.size := Nat.le_trans hz z27
      obtain ⟨rfl, hk9, wt9, hm9⟩ := hp28
      have f_aDe : h25 aDe = some (.inl ((t 1), 200, .inl gDe)) := kp_at hk9 f_aDe (nmc (h_neA f_aDe f_m) (nmc (h_neL (k1 := 200) (k2 := 30) f_aDe f_aTa rfl rfl (by omega)) (nmc (h_neL (k1 := 200) (k2 := 700) f_aDe f_aAt rfl rfl (by omega)) (nmc (h_neL (k1 := 200) (k2 := 700) f_aDe f_aLo rfl rfl (by omega)) (nmc (h_neL (k1 := 200) (k2 := 163840) f_aDe f_aPl rfl rfl (by omega)) (nmc (h_neL (k1 := 200) (k2 := 2048) f_aDe f_aPa rfl rfl (by omega)) (nmc (h_neL (k1 := 200) (k2 := 400) f_aDe f_aSt rfl rfl (by omega)) (nmc (h_neL (k1 := 200) (k2 := 819200) f_aDe f_aBy rfl rfl (by omega)) nm0))))))))
      have f_m : h25 mo = some (.inr (9, [.int 0, .int (nI n), .int 0, .ref aBy, .ref aSt, .ref aDe, .int 0, .int (-1), .int wt9, .ref aPa, .int 1, .ref aIt, .ref aId, .ref aPr, .ref aNa, .ref aSi, .ref aSe, .ref aIw, .ref aEx, .ref aOl, .int 0, .ref aPl, .int 1, .int 0, .ref aTa, .ref aAt, .ref aLo, .int 0, .int 0, .ref aS1, .ref aS2, .ref aS3, .ref aS4, .ref aS5, .ref aS6, .int 0, .ref aO1, .ref aO2, .ref aO3, .ref aO4, .ref aO5])) := hm9
      refine lv_istore_n (lv' := [(2, .int 1), (3, .int 1), (0, .ref mo), (1, .int (nI 200))]) hx hb d_Mo_compact_175 rfl hl (by decide) rfl (fun ls hl => ?_)
      refine lv_iload_n hx hb d_Mo_compact_176 rfl (lv_at hl 0 rfl) ?_
      refine lv_iconst (v := 1) hx hb d_Mo_compact_177 (by decide) ?_
      refine lv_icmp_eq (tgt := 211) hx hb d_Mo_compact_178 (by decide) (fun hc29 => ?_) (fun hc29 => absurd rfl hc29)
      refine lv_iconst (v := 1) hx hb d_Mo_compact_211 (by decide) ?_
      refine lv_istore_n (lv' := [(3, .int 1), (2, .int 1), (0, .ref mo), (1, .int (nI 200))]) hx hb d_Mo_compact_212 rfl hl (by decide) rfl (fun ls hl => ?_)
      refine lv_iload_n hx hb d_Mo_compact_213 rfl (lv_at hl 0 rfl) ?_
      refine lv_aload_n hx hb d_Mo_compact_214 rfl (lv_at hl 2 rfl) ?_
      refine hm_get (ci := 9) (v := .int 1) (C := R_Mo) (T := F_Mo) (N := 41) hx hb hts ig_Mo hown hK hH f_m rfl 10 (by decide) (hts _ mw_390) (fun _ h9 => h9) rfl d_Mo_compact_215 ?_
      refine lv_icmp_ge (tgt := 265) hx hb d_Mo_compact_218 (by decide) (fun hc30 => ?_) (fun hc30 => absurd (by decide) hc30)
      refine lv_aload_n hx hb d_Mo_compact_265 rfl (lv_at hl 2 rfl) ?_
      refine lv_iload_n hx hb d_Mo_compact_266 rfl (lv_at hl 3 rfl) ?_
      refine hm_put (ci := 9) (v := .int (nI 200)) (ty := .int) (C := R_Mo) (T := F_Mo) (N := 41) hx hb hts ig_Mo t_Mo tk_Mo nm_Mo hown hK hH hLo f_m rfl 2 (by decide) (hts _ mw_467) (fun _ h9 => h9) rfl (by decide +kernel) rfl rfl (Nat.le_of_ble_eq_true rfl) d_Mo_compact_267 (fun H31 locs hH z32 hLo => ?_)
      have hz : s.heap.size ≤ H31.size := by rw [z32]; exact hz
      obtain ⟨h33, e34⟩ : ∃ z, z = hu h25 mo (.inr (9, [.int 0, .int (nI n), .int (nI 200), .ref aBy, .ref aSt, .ref aDe, .int 0, .int (-1), .int wt9, .ref aPa, .int 1, .ref aIt, .ref aId, .ref aPr, .ref aNa, .ref aSi, .ref aSe, .ref aIw, .ref aEx, .ref aOl, .int 0, .ref aPl, .int 1, .int 0, .ref aTa, .ref aAt, .ref aLo, .int 0, .int 0, .ref aS1, .ref aS2, .ref aS3, .ref aS4, .ref aS5, .ref aS6, .int 0, .ref aO1, .ref aO2, .ref aO3, .ref aO4, .ref aO5])) := ⟨_, rfl⟩
      have hH : hm D vwCl G h33 H31 := by rw [e34]; exact hH
      have f_aDe : h33 aDe = some (.inl ((t 1), 200, .inl gDe)) := by rw [e34, hu_n (h_neA f_aDe f_m)]; exact f_aDe
      have f_m : h33 mo = some (.inr (9, [.int 0, .int (nI n), .int (nI 200), .ref aBy, .ref aSt, .ref aDe, .int 0, .int (-1), .int wt9, .ref aPa, .int 1, .ref aIt, .ref aId, .ref aPr, .ref aNa, .ref aSi, .ref aSe, .ref aIw, .ref aEx, .ref aOl, .int 0, .ref aPl, .int 1, .int 0, .ref aTa, .ref aAt, .ref aLo, .int 0, .int 0, .ref aS1, .ref aS2, .ref aS3, .ref aS4, .ref aS5, .ref aS6, .int 0, .ref aO1, .ref aO2, .ref aO3, .ref aO4, .ref aO5])) := by rw [e34]; exact hu_s _ _ _
      refine lv_iconst (v := 0) hx hb d_Mo_compact_270 (by decide) ?_
      refine lv_topi (fun v35 e36 => ?_)
      obtain rfl : v35 = nI 0 := e36.trans (by decide)
      refine lv_istore_n (lv' := [(3, .int (nI 0)), (2, .int 1), (0, .ref mo), (1, .int (nI 200))]) hx hb d_Mo_compact_271 rfl hl (by decide) rfl (fun ls hl => ?_)
      refine hm_loop (fun k ls H locs hh => ∃ (k7 : Nat) (g4 : Nat → Int32), k = 200 - k7 ∧ lv_has ls 4 [(3, .int (nI k7)), (0, .ref mo)] ∧ hm D vwCl G hh H ∧ s.heap.size ≤ H.size ∧ hLc G.P locs ∧ hh mo = some (.inr (9, [.int 0, .int (nI n), .int (nI 200), .ref aBy, .ref aSt, .ref aDe, .int 0, .int (-1), .int wt9, .ref aPa, .int 1, .ref aIt, .ref aId, .ref aPr, .ref aNa, .ref aSi, .ref aSe, .ref aIw, .ref aEx, .ref aOl, .int 0, .ref aPl, .int 1, .int 0, .ref aTa, .ref aAt, .ref aLo, .int 0, .int 0, .ref aS1, .ref aS2, .ref aS3, .ref aS4, .ref aS5, .ref aS6, .int 0, .ref aO1, .ref aO2, .ref aO3, .ref aO4, .ref aO5])) ∧ hh aDe = some (.inl ((t 1), 200, .inl g4)) ∧ (k7 ≤ 200)) ?_ (hh := h33) ⟨0, gDe, rfl, (lv_sub hl [0, 2] rfl), hH, hz, hLo, f_m, f_aDe, by omega⟩
      rintro k ls H locs hh ⟨k7, g4, hk, hl, hH, hz, hLo, f_m, f_aDe, hk7⟩ ih
      refine lv_iload_n hx hb d_Mo_compact_272 rfl (lv_at hl 0 rfl) ?_
      refine lv_sipush (v := 200) hx hb d_Mo_compact_273 (by decide) ?_
      refine lv_icmp_ge (tgt := 292) hx hb d_Mo_compact_276 (by decide) (fun hc37 => ?_) (fun hc37 => ?_)
      · skip
        refine lv_aload_n hx hb d_Mo_compact_292 rfl (lv_at hl 1 rfl) ?_
        refine lv_iconst (v := 1) hx hb d_Mo_compact_293 (by decide) ?_
        refine hm_put (ci := 9) (v := .int 1) (ty := .int) (C := R_Mo) (T := F_Mo) (N := 41) hx hb hts ig_Mo t_Mo tk_Mo nm_Mo hown hK hH hLo f_m rfl 20 (by decide) (hts _ mw_487) (fun _ h9 => h9) rfl (by decide +kernel) rfl rfl (Nat.le_of_ble_eq_true rfl) d_Mo_compact_294 (fun H38 locs hH z39 hLo => ?_)
        have hz : s.heap.size ≤ H38.size := by rw [z39]; exact hz
        obtain ⟨h40, e41⟩ : ∃ z, z = hu hh mo (.inr (9, [.int 0, .int (nI n), .int (nI 200), .ref aBy, .ref aSt, .ref aDe, .int 0, .int (-1), .int wt9, .ref aPa, .int 1, .ref aIt, .ref aId, .ref aPr, .ref aNa, .ref aSi, .ref aSe, .ref aIw, .ref aEx, .ref aOl, .int 1, .ref aPl, .int 1, .int 0, .ref aTa, .ref aAt, .ref aLo, .int 0, .int 0, .ref aS1, .ref aS2, .ref aS3, .ref aS4, .ref aS5, .ref aS6, .int 0, .ref aO1, .ref aO2, .ref aO3, .ref aO4, .ref aO5])) := ⟨_, rfl⟩
        have hH : hm D vwCl G h40 H38 := by rw [e41]; exact hH
        have f_aDe : h40 aDe = some (.inl ((t 1), 200, .inl g4)) := by rw [e41, hu_n (h_neA f_aDe f_m)]; exact f_aDe
        have f_m : h40 mo = some (.inr (9, [.int 0, .int (nI n), .int (nI 200), .ref aBy, .ref aSt, .ref aDe, .int 0, .int (-1), .int wt9, .ref aPa, .int 1, .ref aIt, .ref aId, .ref aPr, .ref aNa, .ref aSi, .ref aSe, .ref aIw, .ref aEx, .ref aOl, .int 1, .ref aPl, .int 1, .int 0, .ref aTa, .ref aAt, .ref aLo, .int 0, .int 0, .ref aS1, .ref aS2, .ref aS3, .ref aS4, .ref aS5, .ref aS6, .int 0, .ref aO1, .ref aO2, .ref aO3, .ref aO4, .ref aO5])) := by rw [e41]; exact hu_s _ _ _
        refine lv_aload_n hx hb d_Mo_compact_297 rfl (lv_at hl 1 rfl) ?_
        refine lv_iconst (v := 0) hx hb d_Mo_compact_298 (by decide) ?_
        refine hm_put (ci := 9) (v := .int 0) (ty := .int) (C := R_Mo) (T := F_Mo) (N := 41) hx hb hts ig_Mo t_Mo tk_Mo nm_Mo hown hK hH hLo f_m rfl 35 (by decide) (hts _ mw_486) (fun _ h9 => h9) rfl (by decide +kernel) rfl rfl (Nat.le_of_ble_eq_true rfl) d_Mo_compact_299 (fun H42 locs hH z43 hLo => ?_)
        have hz : s.heap.size ≤ H42.size := by rw [z43]; exact hz
        obtain ⟨h44, e45⟩ : ∃ z, z = hu h40 mo (.inr (9, [.int 0, .int (nI n), .int (nI 200), .ref aBy, .ref aSt, .ref aDe, .int 0, .int (-1), .int wt9, .ref aPa, .int 1, .ref aIt, .ref aId, .ref aPr, .ref aNa, .ref aSi, .ref aSe, .ref aIw, .ref aEx, .ref aOl, .int 1, .ref aPl, .int 1, .int 0, .ref aTa, .ref aAt, .ref aLo, .int 0, .int 0, .ref aS1, .ref aS2, .ref aS3, .ref aS4, .ref aS5, .ref aS6, .int 0, .ref aO1, .ref aO2, .ref aO3, .ref aO4, .ref aO5])) := ⟨_, rfl⟩
        have hH : hm D vwCl G h44 H42 := by rw [e45]; exact hH
        have f_aDe : h44 aDe = some (.inl ((t 1), 200, .inl g4)) := by rw [e45, hu_n (h_neA f_aDe f_m)]; exact f_aDe
        have f_m : h44 mo = some (.inr (9, [.int 0, .int (nI n), .int (nI 200), .ref aBy, .ref aSt, .ref aDe, .int 0, .int (-1), .int wt9, .ref aPa, .int 1, .ref aIt, .ref aId, .ref aPr, .ref aNa, .ref aSi, .ref aSe, .ref aIw, .ref aEx, .ref aOl, .int 1, .ref aPl, .int 1, .int 0, .ref aTa, .ref aAt, .ref aLo, .int 0, .int 0, .ref aS1, .ref aS2, .ref aS3, .ref aS4, .ref aS5, .ref aS6, .int 0, .ref aO1, .ref aO2, .ref aO3, .ref aO4, .ref aO5])) := by rw [e45]; exact hu_s _ _ _
        refine lv_iconst (v := 1) hx hb d_Mo_compact_302 (by decide) ?_
        exact W.iret (v := 1) hx hb hr (fun t9 ht hW => ⟨1, h44, rfl, rfl, by rw [ht]; exact hH, by rw [ht]; exact hz⟩) hLo d_Mo_compact_303
      · skip
        have hk1 : k7 < 200 := (nI_ltI (by omega) (by omega)).mp (Int32.not_le.mp hc37)
        refine lv_aload_n hx hb d_Mo_compact_279 rfl (lv_at hl 1 rfl) ?_
        refine hm_get (ci := 9) (v := .ref aDe) (C := R_Mo) (T := F_Mo) (N := 41) hx hb hts ig_Mo hown hK hH f_m rfl 5 (by decide) (hts _ mw_403) (fun _ h9 => h9) rfl d_Mo_compact_280 ?_
        refine lv_iload_n hx hb d_Mo_compact_283 rfl (lv_at hl 0 rfl) ?_
        refine lv_iconst (v := 0) hx hb d_Mo_compact_284 (by decide) ?_
        refine hj_zast hx hb hK hH hLo 1 f_aDe rfl k7 rfl (by omega) (by decide) d_Mo_compact_285 (fun H46 locs hH z47 hLo => ?_)
        have hz : s.heap.size ≤ H46.size := by rw [z47]; exact hz
        obtain ⟨h48, e49⟩ : ∃ z, z = hu hh aDe (.inl ((t 1), 200, .inl (upd g4 k7 (vp_nar .boolean 0)))) := ⟨_, rfl⟩
        have hH : hm D vwCl G h48 H46 := by rw [e49]; exact hH
        have f_m : h48 mo = some (.inr (9, [.int 0, .int (nI n), .int (nI 200), .ref aBy, .ref aSt, .ref aDe, .int 0, .int (-1), .int wt9, .ref aPa, .int 1, .ref aIt, .ref aId, .ref aPr, .ref aNa, .ref aSi, .ref aSe, .ref aIw, .ref aEx, .ref aOl, .int 0, .ref aPl, .int 1, .int 0, .ref aTa, .ref aAt, .ref aLo, .int 0, .int 0, .ref aS1, .ref aS2, .ref aS3, .ref aS4, .ref aS5, .ref aS6, .int 0, .ref aO1, .ref aO2, .ref aO3, .ref aO4, .ref aO5])) := by rw [e49, hu_n (Ne.symm (h_neA f_aDe f_m))]; exact f_m
        have f_aDe : h48 aDe = some (.inl ((t 1), 200, .inl (upd g4 k7 (vp_nar .boolean 0)))) := by rw [e49]; exact hu_s _ _ _
        refine lv_iinc (v := nI (k7 + 1)) (lv' := [(3, .int (nI (k7 + 1))), (0, .ref mo)]) hx hb d_Mo_compact_286 hl (k := 0) rfl (nI_1 k7) (by decide) rfl (fun ls hl => ?_)
        refine lv_goto (tgt := 272) hx hb d_Mo_compact_289 (by decide) ?_
        exact ih (200 - (k7 + 1)) ls _ locs _ (by rw [hk]; omega) ⟨(k7 + 1), _, rfl, (lv_sub hl [0, 1] rfl), hH, hz, hLo, f_m, f_aDe, by omega⟩
    · skip
      have hk1 : k8 < 409600 := (nI_ltI (by omega) (by omega)).mp (Int32.not_le.mp hc15)
      refine lv_aload_n hx hb d_Mo_compact_56 rfl (lv_at hl 1 rfl) ?_
      refine hm_get (ci := 9) (v := .ref aBy) (C := R_Mo) (T := F_Mo) (N := 41) hx hb hts ig_Mo hown hK hH f_m rfl 3 (by decide) (hts _ mw_400) (fun _ h9 => h9) rfl d_Mo_compact_57 ?_
      refine lv_sipush (v := 2048) hx hb d_Mo_compact_60 (by decide) ?_
      refine lv_iload_n hx hb d_Mo_compact_63 rfl (lv_at hl 2 rfl) ?_
      refine lv_imul hx hb d_Mo_compact_64 ?_
      refine lv_iload_n hx hb d_Mo_compact_65 rfl (lv_at hl 0 rfl) ?_
      refine lv_iadd hx hb d_Mo_compact_66 ?_
      refine lv_iconst (v := 0) hx hb d_Mo_compact_67 (by decide) ?_
      refine hj_bast hx hb hK hH hLo 0 f_aBy rfl (409600 + k8) (ix7 _) (by omega) (by decide) d_Mo_compact_68 (fun H50 locs hH z51 hLo => ?_)
      have hz : s.heap.size ≤ H50.size := by rw [z51]; exact hz
      obtain ⟨h52, e53⟩ : ∃ z, z = hu hh aBy (.inl ((t 0), 819200, .inl (upd g8 (409600 + k8) (vp_nar .byte 0)))) := ⟨_, rfl⟩
      have hH : hm D vwCl G h52 H50 := by rw [e53]; exact hH
      have f_m : h52 mo = some (.inr (9, [.int 0, .int (nI n), .int 0, .ref aBy, .ref aSt, .ref aDe, .int 0, .int (-1), .int 0, .ref aPa, .int 1, .ref aIt, .ref aId, .ref aPr, .ref aNa, .ref aSi, .ref aSe, .ref aIw, .ref aEx, .ref aOl, .int 0, .ref aPl, .int 0, .int 0, .ref aTa, .ref aAt, .ref aLo, .int 0, .int 0, .ref aS1, .ref aS2, .ref aS3, .ref aS4, .ref aS5, .ref aS6, .int 0, .ref aO1, .ref aO2, .ref aO3, .ref aO4, .ref aO5])) := by rw [e53, hu_n (Ne.symm (h_neA f_aBy f_m))]; exact f_m
      have f_aSt : h52 aSt = some (.inl ((t 0), 400, .inl g7)) := by rw [e53, hu_n (h_neL (k1 := 400) (k2 := 819200) f_aSt f_aBy rfl rfl (by omega))]; exact f_aSt
      have f_aPa : h52 aPa = some (.inl ((t 0), 2048, .inl gPa)) := by rw [e53, hu_n (h_neL (k1 := 2048) (k2 := 819200) f_aPa f_aBy rfl rfl (by omega))]; exact f_aPa
      have f_aDe : h52 aDe = some (.inl ((t 1), 200, .inl gDe)) := by rw [e53, hu_n (h_neL (k1 := 200) (k2 := 819200) f_aDe f_aBy rfl rfl (by omega))]; exact f_aDe
      have f_aPl : h52 aPl = some (.inl ((t 0), 163840, .inl gPl)) := by rw [e53, hu_n (h_neL (k1 := 163840) (k2 := 819200) f_aPl f_aBy rfl rfl (by omega))]; exact f_aPl
      have f_aId : h52 aId = some (.inl ((t 1), 700, .inl gId)) := by rw [e53, hu_n (h_neL (k1 := 700) (k2 := 819200) f_aId f_aBy rfl rfl (by omega))]; exact f_aId
      have f_aTa : h52 aTa = some (.inl ((t 2), 30, .inl gTa)) := by rw [e53, hu_n (h_neL (k1 := 30) (k2 := 819200) f_aTa f_aBy rfl rfl (by omega))]; exact f_aTa
      have f_aAt : h52 aAt = some (.inl ((t 2), 700, .inl gAt)) := by rw [e53, hu_n (h_neL (k1 := 700) (k2 := 819200) f_aAt f_aBy rfl rfl (by omega))]; exact f_aAt
      have f_aLo : h52 aLo = some (.inl ((t 2), 700, .inl gLo)) := by rw [e53, hu_n (h_neL (k1 := 700) (k2 := 819200) f_aLo f_aBy rfl rfl (by omega))]; exact f_aLo
      have f_aEx : h52 aEx = some (.inl ((t 2), 700, .inl gEx)) := by rw [e53, hu_n (h_neL (k1 := 700) (k2 := 819200) f_aEx f_aBy rfl rfl (by omega))]; exact f_aEx
      have f_aOl : h52 aOl = some (.inl ((t 2), 700, .inl gOl)) := by rw [e53, hu_n (h_neL (k1 := 700) (k2 := 819200) f_aOl f_aBy rfl rfl (by omega))]; exact f_aOl
      have f_aBy : h52 aBy = some (.inl ((t 0), 819200, .inl (upd g8 (409600 + k8) (vp_nar .byte 0)))) := by rw [e53]; exact hu_s _ _ _
      refine lv_iinc (v := nI (k8 + 1)) (lv' := [(2, .int (nI (k8 + 1))), (0, .ref mo), (1, .int (nI 200))]) hx hb d_Mo_compact_69 hl (k := 0) rfl (nI_1 k8) (by decide) rfl (fun ls hl => ?_)
      refine lv_goto (tgt := 50) hx hb d_Mo_compact_72 (by decide) ?_
      exact ih (409600 - (k8 + 1)) ls _ locs _ (by rw [hk]; omega) ⟨(k8 + 1), _, rfl, (lv_sub hl [0, 1, 2] rfl), hH, hz, hLo, f_m, f_aSt, f_aBy, f_aPa, f_aDe, f_aPl, f_aId, f_aTa, f_aAt, f_aLo, f_aEx, f_aOl, by omega⟩
  · skip
    have hk1 : k9 < 200 := (nI_ltI (by omega) (by omega)).mp (Int32.not_le.mp hc10)
    refine lv_aload_n hx hb d_Mo_compact_33 rfl (lv_at hl 1 rfl) ?_
    refine hm_get (ci := 9) (v := .ref aSt) (C := R_Mo) (T := F_Mo) (N := 41) hx hb hts ig_Mo hown hK hH f_m rfl 4 (by decide) (hts _ mw_401) (fun _ h9 => h9) rfl d_Mo_compact_34 ?_
    refine lv_iload_n hx hb d_Mo_compact_37 rfl (lv_at hl 2 rfl) ?_
    refine lv_iload_n hx hb d_Mo_compact_38 rfl (lv_at hl 0 rfl) ?_
    refine lv_iadd hx hb d_Mo_compact_39 ?_
    refine lv_iconst (v := 0) hx hb d_Mo_compact_40 (by decide) ?_
    refine hj_bast hx hb hK hH hLo 0 f_aSt rfl (200 + k9) (nI_add _ _) (by omega) (by decide) d_Mo_compact_41 (fun H54 locs hH z55 hLo => ?_)
    have hz : s.heap.size ≤ H54.size := by rw [z55]; exact hz
    obtain ⟨h56, e57⟩ : ∃ z, z = hu hh aSt (.inl ((t 0), 400, .inl (upd g7 (200 + k9) (vp_nar .byte 0)))) := ⟨_, rfl⟩
    have hH : hm D vwCl G h56 H54 := by rw [e57]; exact hH
    have f_m : h56 mo = some (.inr (9, [.int 0, .int (nI n), .int 0, .ref aBy, .ref aSt, .ref aDe, .int 0, .int (-1), .int 0, .ref aPa, .int 1, .ref aIt, .ref aId, .ref aPr, .ref aNa, .ref aSi, .ref aSe, .ref aIw, .ref aEx, .ref aOl, .int 0, .ref aPl, .int 0, .int 0, .ref aTa, .ref aAt, .ref aLo, .int 0, .int 0, .ref aS1, .ref aS2, .ref aS3, .ref aS4, .ref aS5, .ref aS6, .int 0, .ref aO1, .ref aO2, .ref aO3, .ref aO4, .ref aO5])) := by rw [e57, hu_n (Ne.symm (h_neA f_aSt f_m))]; exact f_m
    have f_aBy : h56 aBy = some (.inl ((t 0), 819200, .inl gBy)) := by rw [e57, hu_n (h_neL (k1 := 819200) (k2 := 400) f_aBy f_aSt rfl rfl (by omega))]; exact f_aBy
    have f_aPa : h56 aPa = some (.inl ((t 0), 2048, .inl gPa)) := by rw [e57, hu_n (h_neL (k1 := 2048) (k2 := 400) f_aPa f_aSt rfl rfl (by omega))]; exact f_aPa
    have f_aDe : h56 aDe = some (.inl ((t 1), 200, .inl gDe)) := by rw [e57, hu_n (h_neL (k1 := 200) (k2 := 400) f_aDe f_aSt rfl rfl (by omega))]; exact f_aDe
    have f_aPl : h56 aPl = some (.inl ((t 0), 163840, .inl gPl)) := by rw [e57, hu_n (h_neL (k1 := 163840) (k2 := 400) f_aPl f_aSt rfl rfl (by omega))]; exact f_aPl
    have f_aId : h56 aId = some (.inl ((t 1), 700, .inl gId)) := by rw [e57, hu_n (h_neL (k1 := 700) (k2 := 400) f_aId f_aSt rfl rfl (by omega))]; exact f_aId
    have f_aTa : h56 aTa = some (.inl ((t 2), 30, .inl gTa)) := by rw [e57, hu_n (h_neL (k1 := 30) (k2 := 400) f_aTa f_aSt rfl rfl (by omega))]; exact f_aTa
    have f_aAt : h56 aAt = some (.inl ((t 2), 700, .inl gAt)) := by rw [e57, hu_n (h_neL (k1 := 700) (k2 := 400) f_aAt f_aSt rfl rfl (by omega))]; exact f_aAt
    have f_aLo : h56 aLo = some (.inl ((t 2), 700, .inl gLo)) := by rw [e57, hu_n (h_neL (k1 := 700) (k2 := 400) f_aLo f_aSt rfl rfl (by omega))]; exact f_aLo
    have f_aEx : h56 aEx = some (.inl ((t 2), 700, .inl gEx)) := by rw [e57, hu_n (h_neL (k1 := 700) (k2 := 400) f_aEx f_aSt rfl rfl (by omega))]; exact f_aEx
    have f_aOl : h56 aOl = some (.inl ((t 2), 700, .inl gOl)) := by rw [e57, hu_n (h_neL (k1 := 700) (k2 := 400) f_aOl f_aSt rfl rfl (by omega))]; exact f_aOl
    have f_aSt : h56 aSt = some (.inl ((t 0), 400, .inl (upd g7 (200 + k9) (vp_nar .byte 0)))) := by rw [e57]; exact hu_s _ _ _
    refine lv_iinc (v := nI (k9 + 1)) (lv' := [(2, .int (nI (k9 + 1))), (0, .ref mo), (1, .int (nI 200))]) hx hb d_Mo_compact_42 hl (k := 0) rfl (nI_1 k9) (by decide) rfl (fun ls hl => ?_)
    refine lv_goto (tgt := 26) hx hb d_Mo_compact_45 (by decide) ?_
    exact ih (200 - (k9 + 1)) ls _ locs _ (by rw [hk]; omega) ⟨(k9 + 1), _, rfl, (lv_sub hl [0, 1, 2] rfl), hH, hz, hLo, f_m, f_aSt, f_aBy, f_aPa, f_aDe, f_aPl, f_aId, f_aTa, f_aAt, f_aLo, f_aEx, f_aOl, by omega, upd_z hz9 _ (by decide)⟩
