set_option maxRecDepth 100000 in
theorem mw_496 : Cond.code y_Mo_recordId b_Mo_recordId 3 (some .int) ∈ lw_g := lw_gin (List.mem_append_right _ (List.mem_of_getElem? (i := 1175) rfl)) (by decide +kernel)
set_option maxRecDepth 100000 in
theorem mw_497 : Cond.methodLink R_Mo 192 y_Mo_recordId ∈ lw_g := lw_gin (List.mem_append_right _ (List.mem_of_getElem? (i := 1172) rfl)) (by decide +kernel)
set_option maxRecDepth 100000 in
theorem mw_498 : Cond.instanceMethod y_Mo_recordId ∈ lw_g := lw_gin (List.mem_append_right _ (List.mem_of_getElem? (i := 1174) rfl)) (by decide +kernel)
set_option maxRecDepth 100000 in
theorem mw_499 : Cond.selects R_Mo y_Mo_recordId y_Mo_recordId ∈ lw_g := lw_gin (List.mem_append_left _ (List.mem_of_getElem? (i := 44) rfl)) (by decide +kernel)
set_option maxRecDepth 100000 in
theorem mw_500 : Cond.code y_Mo_even b_Mo_even 1 (some .int) ∈ lw_g := lw_gin (List.mem_append_right _ (List.mem_of_getElem? (i := 1181) rfl)) (by decide +kernel)
set_option maxRecDepth 100000 in
theorem mw_501 : Cond.methodLink R_Mo 196 y_Mo_even ∈ lw_g := lw_gin (List.mem_append_right _ (List.mem_of_getElem? (i := 1179) rfl)) (by decide +kernel)
set_option maxRecDepth 100000 in
theorem mw_502 : Cond.static y_Mo_even ∈ lw_g := lw_gin (List.mem_append_right _ (List.mem_of_getElem? (i := 1180) rfl)) (by decide +kernel)
set_option maxRecDepth 100000 in
theorem mw_503 : Cond.code y_Mo_both b_Mo_both 4 none ∈ lw_g := lw_gin (List.mem_append_right _ (List.mem_of_getElem? (i := 1189) rfl)) (by decide +kernel)
set_option maxRecDepth 100000 in
theorem mw_504 : Cond.methodLink R_Mo 199 y_Mo_both ∈ lw_g := lw_gin (List.mem_append_right _ (List.mem_of_getElem? (i := 1186) rfl)) (by decide +kernel)
set_option maxRecDepth 100000 in
theorem mw_505 : Cond.instanceMethod y_Mo_both ∈ lw_g := lw_gin (List.mem_append_right _ (List.mem_of_getElem? (i := 1188) rfl)) (by decide +kernel)
set_option maxRecDepth 100000 in
theorem mw_506 : Cond.selects R_Mo y_Mo_both y_Mo_both ∈ lw_g := lw_gin (List.mem_append_left _ (List.mem_of_getElem? (i := 46) rfl)) (by decide +kernel)
theorem d_Mo_record_0 : decode b_Mo_record 0 = .ok (.aload_n 0, 1) := by decide +kernel
theorem d_Mo_record_1 : decode b_Mo_record 1 = .ok (.iload_n 2, 1) := by decide +kernel
theorem d_Mo_record_2 : decode b_Mo_record 2 = .ok (.iload_n 3, 1) := by decide +kernel
theorem d_Mo_record_3 : decode b_Mo_record 3 = .ok (.invokevirtual 192, 3) := by decide +kernel
theorem d_Mo_record_6 : decode b_Mo_record 6 = .ok (.istore 4, 2) := by decide +kernel
theorem d_Mo_record_8 : decode b_Mo_record 8 = .ok (.aload_n 0, 1) := by decide +kernel
theorem d_Mo_record_9 : decode b_Mo_record 9 = .ok (.getfield 54, 3) := by decide +kernel
theorem d_Mo_record_12 : decode b_Mo_record 12 = .ok (.iload_n 1, 1) := by decide +kernel
theorem d_Mo_record_13 : decode b_Mo_record 13 = .ok (.bipush 33, 2) := by decide +kernel
theorem d_Mo_record_15 : decode b_Mo_record 15 = .ok (.iload 4, 2) := by decide +kernel
theorem d_Mo_record_17 : decode b_Mo_record 17 = .ok (.iadd, 1) := by decide +kernel
theorem d_Mo_record_18 : decode b_Mo_record 18 = .ok (.invokestatic 196, 3) := by decide +kernel
theorem d_Mo_record_21 : decode b_Mo_record 21 = .ok (.i2b, 1) := by decide +kernel
theorem d_Mo_record_22 : decode b_Mo_record 22 = .ok (.bastore, 1) := by decide +kernel
theorem d_Mo_record_23 : decode b_Mo_record 23 = .ok (.aload_n 0, 1) := by decide +kernel
theorem d_Mo_record_24 : decode b_Mo_record 24 = .ok (.iload_n 1, 1) := by decide +kernel
theorem d_Mo_record_25 : decode b_Mo_record 25 = .ok (.iconst 2, 1) := by decide +kernel
theorem d_Mo_record_26 : decode b_Mo_record 26 = .ok (.iadd, 1) := by decide +kernel
theorem d_Mo_record_27 : decode b_Mo_record 27 = .ok (.iconst 4, 1) := by decide +kernel
theorem d_Mo_record_28 : decode b_Mo_record 28 = .ok (.aload_n 0, 1) := by decide +kernel
theorem d_Mo_record_29 : decode b_Mo_record 29 = .ok (.getfield 27, 3) := by decide +kernel
theorem d_Mo_record_32 : decode b_Mo_record 32 = .ok (.iload_n 3, 1) := by decide +kernel
theorem d_Mo_record_33 : decode b_Mo_record 33 = .ok (.baload, 1) := by decide +kernel
theorem d_Mo_record_34 : decode b_Mo_record 34 = .ok (.ifCond .eq 12, 3) := by decide +kernel
theorem d_Mo_record_37 : decode b_Mo_record 37 = .ok (.aload_n 0, 1) := by decide +kernel
theorem d_Mo_record_38 : decode b_Mo_record 38 = .ok (.getfield 60, 3) := by decide +kernel
theorem d_Mo_record_41 : decode b_Mo_record 41 = .ok (.iload_n 3, 1) := by decide +kernel
theorem d_Mo_record_42 : decode b_Mo_record 42 = .ok (.iaload, 1) := by decide +kernel
theorem d_Mo_record_43 : decode b_Mo_record 43 = .ok (.goto 9, 3) := by decide +kernel
theorem d_Mo_record_52 : decode b_Mo_record 52 = .ok (.invokevirtual 199, 3) := by decide +kernel
theorem d_Mo_record_55 : decode b_Mo_record 55 = .ok (.aload_n 0, 1) := by decide +kernel
theorem d_Mo_record_56 : decode b_Mo_record 56 = .ok (.iload_n 1, 1) := by decide +kernel
theorem d_Mo_record_57 : decode b_Mo_record 57 = .ok (.bipush 10, 2) := by decide +kernel
theorem d_Mo_record_59 : decode b_Mo_record 59 = .ok (.iadd, 1) := by decide +kernel
theorem d_Mo_record_60 : decode b_Mo_record 60 = .ok (.iconst 4, 1) := by decide +kernel
theorem d_Mo_record_61 : decode b_Mo_record 61 = .ok (.aload_n 0, 1) := by decide +kernel
theorem d_Mo_record_62 : decode b_Mo_record 62 = .ok (.getfield 27, 3) := by decide +kernel
theorem d_Mo_record_65 : decode b_Mo_record 65 = .ok (.iload_n 3, 1) := by decide +kernel
theorem d_Mo_record_66 : decode b_Mo_record 66 = .ok (.baload, 1) := by decide +kernel
theorem d_Mo_record_67 : decode b_Mo_record 67 = .ok (.ifCond .eq 16, 3) := by decide +kernel
theorem d_Mo_record_70 : decode b_Mo_record 70 = .ok (.sipush 2048, 3) := by decide +kernel
theorem d_Mo_record_73 : decode b_Mo_record 73 = .ok (.aload_n 0, 1) := by decide +kernel
theorem d_Mo_record_74 : decode b_Mo_record 74 = .ok (.getfield 63, 3) := by decide +kernel
theorem d_Mo_record_77 : decode b_Mo_record 77 = .ok (.iload_n 3, 1) := by decide +kernel
theorem d_Mo_record_78 : decode b_Mo_record 78 = .ok (.iaload, 1) := by decide +kernel
theorem d_Mo_record_79 : decode b_Mo_record 79 = .ok (.imul, 1) := by decide +kernel
theorem d_Mo_record_80 : decode b_Mo_record 80 = .ok (.goto 9, 3) := by decide +kernel
theorem d_Mo_record_89 : decode b_Mo_record 89 = .ok (.invokevirtual 199, 3) := by decide +kernel
theorem d_Mo_record_92 : decode b_Mo_record 92 = .ok (.aload_n 0, 1) := by decide +kernel
theorem d_Mo_record_93 : decode b_Mo_record 93 = .ok (.getfield 54, 3) := by decide +kernel
theorem d_Mo_record_96 : decode b_Mo_record 96 = .ok (.iload_n 1, 1) := by decide +kernel
theorem d_Mo_record_97 : decode b_Mo_record 97 = .ok (.bipush 25, 2) := by decide +kernel
theorem d_Mo_record_99 : decode b_Mo_record 99 = .ok (.iadd, 1) := by decide +kernel
theorem d_Mo_record_100 : decode b_Mo_record 100 = .ok (.aload_n 0, 1) := by decide +kernel
theorem d_Mo_record_101 : decode b_Mo_record 101 = .ok (.getfield 27, 3) := by decide +kernel
theorem d_Mo_record_104 : decode b_Mo_record 104 = .ok (.iload_n 3, 1) := by decide +kernel
theorem d_Mo_record_105 : decode b_Mo_record 105 = .ok (.baload, 1) := by decide +kernel
theorem d_Mo_record_106 : decode b_Mo_record 106 = .ok (.ifCond .eq 7, 3) := by decide +kernel
theorem d_Mo_record_109 : decode b_Mo_record 109 = .ok (.iconst 2, 1) := by decide +kernel
theorem d_Mo_record_110 : decode b_Mo_record 110 = .ok (.goto 4, 3) := by decide +kernel
theorem d_Mo_record_114 : decode b_Mo_record 114 = .ok (.i2b, 1) := by decide +kernel
theorem d_Mo_record_115 : decode b_Mo_record 115 = .ok (.bastore, 1) := by decide +kernel
theorem d_Mo_record_116 : decode b_Mo_record 116 = .ok (.aload_n 0, 1) := by decide +kernel
theorem d_Mo_record_117 : decode b_Mo_record 117 = .ok (.iload_n 1, 1) := by decide +kernel
theorem d_Mo_record_118 : decode b_Mo_record 118 = .ok (.bipush 28, 2) := by decide +kernel
theorem d_Mo_record_120 : decode b_Mo_record 120 = .ok (.iadd, 1) := by decide +kernel
theorem d_Mo_record_121 : decode b_Mo_record 121 = .ok (.iconst 2, 1) := by decide +kernel
theorem d_Mo_record_122 : decode b_Mo_record 122 = .ok (.iconst 1, 1) := by decide +kernel
theorem d_Mo_record_123 : decode b_Mo_record 123 = .ok (.invokevirtual 199, 3) := by decide +kernel
theorem d_Mo_record_126 : decode b_Mo_record 126 = .ok (.aload_n 0, 1) := by decide +kernel
theorem d_Mo_record_127 : decode b_Mo_record 127 = .ok (.getfield 54, 3) := by decide +kernel
theorem d_Mo_record_130 : decode b_Mo_record 130 = .ok (.iload_n 1, 1) := by decide +kernel
theorem d_Mo_record_131 : decode b_Mo_record 131 = .ok (.bipush 32, 2) := by decide +kernel
theorem d_Mo_record_133 : decode b_Mo_record 133 = .ok (.iadd, 1) := by decide +kernel
theorem d_Mo_record_134 : decode b_Mo_record 134 = .ok (.iload 4, 2) := by decide +kernel
theorem d_Mo_record_136 : decode b_Mo_record 136 = .ok (.i2b, 1) := by decide +kernel
theorem d_Mo_record_137 : decode b_Mo_record 137 = .ok (.bastore, 1) := by decide +kernel
theorem d_Mo_record_138 : decode b_Mo_record 138 = .ok (.iconst 0, 1) := by decide +kernel
theorem d_Mo_record_139 : decode b_Mo_record 139 = .ok (.istore 5, 2) := by decide +kernel
theorem d_Mo_record_141 : decode b_Mo_record 141 = .ok (.iload 5, 2) := by decide +kernel
theorem d_Mo_record_143 : decode b_Mo_record 143 = .ok (.iload 4, 2) := by decide +kernel
theorem d_Mo_record_145 : decode b_Mo_record 145 = .ok (.if_icmp .ge 48, 3) := by decide +kernel
theorem d_Mo_record_148 : decode b_Mo_record 148 = .ok (.aload_n 0, 1) := by decide +kernel
theorem d_Mo_record_149 : decode b_Mo_record 149 = .ok (.getfield 54, 3) := by decide +kernel
theorem d_Mo_record_152 : decode b_Mo_record 152 = .ok (.iload_n 1, 1) := by decide +kernel
theorem d_Mo_record_153 : decode b_Mo_record 153 = .ok (.bipush 33, 2) := by decide +kernel
theorem d_Mo_record_155 : decode b_Mo_record 155 = .ok (.iadd, 1) := by decide +kernel
theorem d_Mo_record_156 : decode b_Mo_record 156 = .ok (.iload 5, 2) := by decide +kernel
theorem d_Mo_record_158 : decode b_Mo_record 158 = .ok (.iadd, 1) := by decide +kernel
theorem d_Mo_record_159 : decode b_Mo_record 159 = .ok (.iload_n 2, 1) := by decide +kernel
theorem d_Mo_record_160 : decode b_Mo_record 160 = .ok (.iconst 2, 1) := by decide +kernel
theorem d_Mo_record_161 : decode b_Mo_record 161 = .ok (.if_icmp .ge 7, 3) := by decide +kernel
theorem d_Mo_record_164 : decode b_Mo_record 164 = .ok (.iload_n 2, 1) := by decide +kernel
theorem d_Mo_record_165 : decode b_Mo_record 165 = .ok (.goto 20, 3) := by decide +kernel
theorem d_Mo_record_185 : decode b_Mo_record 185 = .ok (.i2b, 1) := by decide +kernel
theorem d_Mo_record_186 : decode b_Mo_record 186 = .ok (.bastore, 1) := by decide +kernel
theorem d_Mo_record_187 : decode b_Mo_record 187 = .ok (.iinc 5 1, 3) := by decide +kernel
theorem d_Mo_record_190 : decode b_Mo_record 190 = .ok (.goto (-49), 3) := by decide +kernel
theorem d_Mo_record_193 : decode b_Mo_record 193 = .ok (.return_, 1) := by decide +kernel
set_option maxHeartbeats 4000000 in
set_option maxRecDepth 100000 in
theorem c_m_record (l : Launch) (D : va_G) (t : Nat → ClassId) (G : hG) (ak av : Nat → Nat) (h : hM) (mo n aBy aSt aDe aPa aIt aId aPr aNa aSi aSe aIw aEx aOl aPl aTa aAt aLo aS1 aS2 aS3 aS4 aS5 aS6 aO1 aO2 aO3 aO4 aO5 : Nat) (dr wt : Int32) (gPl gId gAt gLo : Nat → Int32) (P9 : Nat) (p9 so : Int32) (f_m : h mo = some (.inr (9, [.int 0, .int (nI n), .int 0, .ref aBy, .ref aSt, .ref aDe, .int 0, .int (-1), .int wt, .ref aPa, .int 1, .ref aIt, .ref aId, .ref aPr, .ref aNa, .ref aSi, .ref aSe, .ref aIw, .ref aEx, .ref aOl, .int 0, .ref aPl, .int dr, .int 0, .ref aTa, .ref aAt, .ref aLo, .int 0, .int 0, .ref aS1, .ref aS2, .ref aS3, .ref aS4, .ref aS5, .ref aS6, .int 0, .ref aO1, .ref aO2, .ref aO3, .ref aO4, .ref aO5]))) (f_aPl : h aPl = some (.inl ((t 0), 163840, .inl gPl))) (f_aId : h aId = some (.inl ((t 1), 700, .inl gId))) (f_aAt : h aAt = some (.inl ((t 2), 700, .inl gAt))) (f_aLo : h aLo = some (.inl ((t 2), 700, .inl gLo))) (zId : gId 0 = 1) (hso : ¬ (2 : Int32) ≤ so) (hp9 : p9 = nI P9) (hle : P9 + 34 ≤ 163840) (ne_aId_aAt : aId ≠ aAt) (ne_aId_aLo : aId ≠ aLo) (ne_aAt_aLo : aAt ≠ aLo) : Met l y_Mo_record (.code y_Mo_record b_Mo_record 6 none :: lw_g) { frames := 2, cells := 0, slots := 0, locals := 47 } (hP (kE D t G ak av) D vwCl G h [.ref mo, .int p9, .int so, .int 0]) (hQv D vwCl G (fun h' => kp [aPl] h h' ∧ ∃ g : Nat → Int32, h' aPl = some (.inl ((t 0), 163840, .inl g)))) 0 0 G.P := by
  refine Met.ofW (cc := b_Mo_record) (maxL := 6) (ret := none) (by decide) rfl ?_
  intro p e s m args below meth c s₁ Bd hml hv
  obtain ⟨ha, hE, hH⟩ := hv
  have hx := Bd.exec
  have hb := Bd.bytes
  have hr := Bd.returns
  have hts : ∀ w ∈ lw_g, w.before args s = true := fun w hw => atoms_spec (ws := (.code y_Mo_record b_Mo_record 6 none :: lw_g)) Bd.pre w (List.mem_cons_of_mem _ hw)
  have hown : s.vm.findClass R_Mo = some m.cls := findClass_of_methodNamed Bd.named
  have hlocks := Bd.notSynchronized
  have hK := hE.1
  have hH0 := hH
  have hLo : hLc G.P [] := hLc_nil
  have hz : s.heap.size ≤ s.heap.size := Nat.le_refl _
  have hkp : kp [aPl] h h := kp_rf
  have hl := lv_entry [.ref mo, .int p9, .int so, .int 0] (n := 6) (Nat.le_of_ble_eq_true rfl)
  rw [show entryFrame m args 6 = F0 m 0 ((lg_sl [.ref mo, .int p9, .int so, .int 0] ++ List.replicate (6 - (lg_sl [.ref mo, .int p9, .int so, .int 0]).length) Slot.unset).toArray) [] from (by rw [ha]; exact lg_entry_eq m [.ref mo, .int p9, .int so, .int 0] 6)]
  generalize (lg_sl [.ref mo, .int p9, .int so, .int 0] ++ List.replicate (6 - (lg_sl [.ref mo, .int p9, .int so, .int 0]).length) Slot.unset).toArray = ls at hl ⊢
  have hl : lv_has ls 6 [(0, .ref mo), (1, .int p9), (2, .int so), (3, .int 0)] := hl
  subst hp9
  refine lv_aload_n hx hb d_Mo_record_0 rfl (lv_at hl 0 rfl) ?_
  refine lv_iload_n hx hb d_Mo_record_1 rfl (lv_at hl 2 rfl) ?_
  refine lv_iload_n hx hb d_Mo_record_2 rfl (lv_at hl 3 rfl) ?_
  refine hm_calli (va_runV (As := [.int so, .int 0]) (b := mo) (rest := []) ⟨hx, hb, hml, hown, hts⟩ (c_m_recordId l D t G ak av h mo so 0 hso) ⟨cw9B 2 hts mw_496 mw_497 mw_428 rfl rfl (by decide +kernel) ⟨Nat.le_of_ble_eq_true rfl, Nat.le_of_ble_eq_true rfl⟩, hts _ mw_498, hts _ mw_499⟩ (hP_V (q := (R_Mo, F_Mo, 41)) kE_ok hE hK hH f_m rfl) rfl rfl hl.1 rfl (lv_room (Nat.le_of_ble_eq_true rfl)) d_Mo_record_3 ⟨Nat.le_of_ble_eq_true rfl, Nat.le_of_ble_eq_true rfl⟩) hLo (fun r1 h2 H3 locs hp5 hH z4 hLo => ?_)
  have hz : s.heap.size ≤ H3.size := Nat.le_trans hz z4
  obtain ⟨rfl, rfl⟩ := hp5
  refine lv_istore (lv' := [(4, .int 1), (0, .ref mo), (1, .int (nI P9)), (2, .int so), (3, .int 0)]) hx hb d_Mo_record_6 hl (by decide) rfl (fun ls hl => ?_)
  refine lv_aload_n hx hb d_Mo_record_8 rfl (lv_at hl 1 rfl) ?_
  refine hm_get (ci := 9) (v := .ref aPl) (C := R_Mo) (T := F_Mo) (N := 41) hx hb hts ig_Mo hown hK hH f_m rfl 21 (by decide) (hts _ mw_410) (fun _ h9 => h9) rfl d_Mo_record_9 ?_
  refine lv_iload_n hx hb d_Mo_record_12 rfl (lv_at hl 2 rfl) ?_
  refine lv_bipush (v := 33) hx hb d_Mo_record_13 (by decide) ?_
  refine lv_iload hx hb d_Mo_record_15 (lv_at hl 0 rfl) ?_
  refine lv_iadd hx hb d_Mo_record_17 ?_
  refine hm_calli (va_runS (As := [.int (33 + 1)]) (rest := [.int (nI P9), .ref aPl]) ⟨hx, hb, hml, hown, hts⟩ (c_m_even l D t G ak av h (33 + 1)) ⟨cw9B 1 hts mw_500 mw_501 mw_428 rfl rfl (by decide +kernel) ⟨Nat.le_of_ble_eq_true rfl, Nat.le_of_ble_eq_true rfl⟩, hts _ mw_502⟩ (hP_S kE_ok hE hH) rfl rfl hl.1 rfl (lv_room (Nat.le_of_ble_eq_true rfl)) d_Mo_record_18 ⟨Nat.le_of_ble_eq_true rfl, Nat.le_of_ble_eq_true rfl⟩) hLo (fun r6 h7 H8 locs hp10 hH z9 hLo => ?_)
  have hz : s.heap.size ≤ H8.size := Nat.le_trans hz z9
  obtain ⟨rfl, rfl⟩ := hp10
  refine lv_topi (fun v11 e12 => ?_)
  obtain rfl : v11 = 34 := e12.trans (by decide)
  refine lv_i2b (v := (34 : Int32).toInt8.toInt32) hx hb d_Mo_record_21 rfl ?_
  refine hj_bast hx hb hK hH hLo 0 f_aPl rfl P9 rfl (by omega) (by decide) d_Mo_record_22 (fun H13 locs hH z14 hLo => ?_)
  have hz : s.heap.size ≤ H13.size := by rw [z14]; exact hz
  obtain ⟨h15, e16⟩ : ∃ z, z = hu h aPl (.inl ((t 0), 163840, .inl (upd gPl P9 (vp_nar .byte ((34 : Int32).toInt8.toInt32))))) := ⟨_, rfl⟩
  have hH : hm D vwCl G h15 H13 := by rw [e16]; exact hH
  have f_m : h15 mo = some (.inr (9, [.int 0, .int (nI n), .int 0, .ref aBy, .ref aSt, .ref aDe, .int 0, .int (-1), .int wt, .ref aPa, .int 1, .ref aIt, .ref aId, .ref aPr, .ref aNa, .ref aSi, .ref aSe, .ref aIw, .ref aEx, .ref aOl, .int 0, .ref aPl, .int dr, .int 0, .ref aTa, .ref aAt, .ref aLo, .int 0, .int 0, .ref aS1, .ref aS2, .ref aS3, .ref aS4, .ref aS5, .ref aS6, .int 0, .ref aO1, .ref aO2, .ref aO3, .ref aO4, .ref aO5])) := by rw [e16, hu_n (Ne.symm (h_neA f_aPl f_m))]; exact f_m
  have f_aId : h15 aId = some (.inl ((t 1), 700, .inl gId)) := by rw [e16, hu_n (h_neL (k1 := 700) (k2 := 163840) f_aId f_aPl rfl rfl (by omega))]; exact f_aId
  have f_aAt : h15 aAt = some (.inl ((t 2), 700, .inl gAt)) := by rw [e16, hu_n (h_neL (k1 := 700) (k2 := 163840) f_aAt f_aPl rfl rfl (by omega))]; exact f_aAt
  have f_aLo : h15 aLo = some (.inl ((t 2), 700, .inl gLo)) := by rw [e16, hu_n (h_neL (k1 := 700) (k2 := 163840) f_aLo f_aPl rfl rfl (by omega))]; exact f_aLo
  have f_aPl : h15 aPl = some (.inl ((t 0), 163840, .inl (upd gPl P9 (vp_nar .byte ((34 : Int32).toInt8.toInt32))))) := by rw [e16]; exact hu_s _ _ _
  have hkp : kp [aPl] h h15 := by rw [e16]; exact kp_put hkp (by simp)
  refine lv_aload_n hx hb d_Mo_record_23 rfl (lv_at hl 1 rfl) ?_
  refine lv_iload_n hx hb d_Mo_record_24 rfl (lv_at hl 2 rfl) ?_
  refine lv_iconst (v := 2) hx hb d_Mo_record_25 (by decide) ?_
  refine lv_iadd hx hb d_Mo_record_26 ?_
  refine lv_iconst (v := 4) hx hb d_Mo_record_27 (by decide) ?_
  refine lv_aload_n hx hb d_Mo_record_28 rfl (lv_at hl 1 rfl) ?_
  refine hm_get (ci := 9) (v := .ref aId) (C := R_Mo) (T := F_Mo) (N := 41) hx hb hts ig_Mo hown hK hH f_m rfl 12 (by decide) (hts _ mw_392) (fun _ h9 => h9) rfl d_Mo_record_29 ?_
  refine lv_iload_n hx hb d_Mo_record_32 rfl (lv_at hl 4 rfl) ?_
  refine hj_zald hx hb hK hH 1 f_aId rfl 0 (by decide) (by decide) (by decide) d_Mo_record_33 ?_
  refine lv_if_eq (tgt := 46) hx hb d_Mo_record_34 (by decide) (fun hc17 => absurd hc17 (by rw [zId]; decide)) (fun hc17 => ?_)
  refine lv_aload_n hx hb d_Mo_record_37 rfl (lv_at hl 1 rfl) ?_
  refine hm_get (ci := 9) (v := .ref aAt) (C := R_Mo) (T := F_Mo) (N := 41) hx hb hts ig_Mo hown hK hH f_m rfl 25 (by decide) (hts _ mw_412) (fun _ h9 => h9) rfl d_Mo_record_38 ?_
  refine lv_iload_n hx hb d_Mo_record_41 rfl (lv_at hl 4 rfl) ?_
  refine hj_iald hx hb hK hH 2 f_aAt rfl 0 (by decide) (by decide) (by decide) d_Mo_record_42 ?_
  refine lv_goto (tgt := 52) hx hb d_Mo_record_43 (by decide) ?_
  refine hm_callv (va_runV (As := [.int ((nI P9) + 2), .int 4, .int (gAt 0)]) (b := mo) (rest := []) ⟨hx, hb, hml, hown, hts⟩ (c_m_both l D t G ak av h15 mo n aBy aSt aDe aPa aIt aId aPr aNa aSi aSe aIw aEx aOl aPl aTa aAt aLo aS1 aS2 aS3 aS4 aS5 aS6 aO1 aO2 aO3 aO4 aO5 dr wt (upd gPl P9 (vp_nar .byte ((34 : Int32).toInt8.toInt32))) (P9 + 2) 4 (nI P9 + 2) 4 (gAt 0) f_m f_aPl (nI_add _ _) rfl (by omega)) ⟨cw9B 3 hts mw_503 mw_504 mw_428 rfl rfl (by decide +kernel) ⟨Nat.le_of_ble_eq_true rfl, Nat.le_of_ble_eq_true rfl⟩, hts _ mw_505, hts _ mw_506⟩ (hP_V (q := (R_Mo, F_Mo, 41)) kE_ok hE hK hH f_m rfl) rfl rfl hl.1 rfl (lv_room (Nat.le_of_ble_eq_true rfl)) d_Mo_record_52 ⟨Nat.le_of_ble_eq_true rfl, Nat.le_of_ble_eq_true rfl⟩) hLo (fun h18 H19 locs hp21 hH z20 hLo => ?_)
  have hz : s.heap.size ≤ H19.size := Nat.le_trans hz z20
  obtain ⟨hk9, g22, hg9⟩ := hp21
  have f_m : h18 mo = some (.inr (9, [.int 0, .int (nI n), .int 0, .ref aBy, .ref aSt, .ref aDe, .int 0, .int (-1), .int wt, .ref aPa, .int 1, .ref aIt, .ref aId, .ref aPr, .ref aNa, .ref aSi, .ref aSe, .ref aIw, .ref aEx, .ref aOl, .int 0, .ref aPl, .int dr, .int 0, .ref aTa, .ref aAt, .ref aLo, .int 0, .int 0, .ref aS1, .ref aS2, .ref aS3, .ref aS4, .ref aS5, .ref aS6, .int 0, .ref aO1, .ref aO2, .ref aO3, .ref aO4, .ref aO5])) := kp_at hk9 f_m (nmc (Ne.symm (h_neA f_aPl f_m)) nm0)
  have f_aId : h18 aId = some (.inl ((t 1), 700, .inl gId)) := kp_at hk9 f_aId (nmc (h_neL (k1 := 700) (k2 := 163840) f_aId f_aPl rfl rfl (by omega)) nm0)
  have f_aAt : h18 aAt = some (.inl ((t 2), 700, .inl gAt)) := kp_at hk9 f_aAt (nmc (h_neL (k1 := 700) (k2 := 163840) f_aAt f_aPl rfl rfl (by omega)) nm0)
  have f_aLo : h18 aLo = some (.inl ((t 2), 700, .inl gLo)) := kp_at hk9 f_aLo (nmc (h_neL (k1 := 700) (k2 := 163840) f_aLo f_aPl rfl rfl (by omega)) nm0)
  have hkp : kp [aPl] h h18 := kp_tr2 hkp hk9 (List.forall_mem_cons.mpr ⟨Or.inl (by simp), List.forall_mem_nil _⟩)
  have f_aPl : h18 aPl = some (.inl ((t 0), 163840, .inl g22)) := hg9
  refine lv_aload_n hx hb d_Mo_record_55 rfl (lv_at hl 1 rfl) ?_
  refine lv_iload_n hx hb d_Mo_record_56 rfl (lv_at hl 2 rfl) ?_
  refine lv_bipush (v := 10) hx hb d_Mo_record_57 (by decide) ?_
  refine lv_iadd hx hb d_Mo_record_59 ?_
  refine lv_iconst (v := 4) hx hb d_Mo_record_60 (by decide) ?_
  refine lv_aload_n hx hb d_Mo_record_61 rfl (lv_at hl 1 rfl) ?_
  refine hm_get (ci := 9) (v := .ref aId) (C := R_Mo) (T := F_Mo) (N := 41) hx hb hts ig_Mo hown hK hH f_m rfl 12 (by decide) (hts _ mw_392) (fun _ h9 => h9) rfl d_Mo_record_62 ?_
  refine lv_iload_n hx hb d_Mo_record_65 rfl (lv_at hl 4 rfl) ?_
  refine hj_zald hx hb hK hH 1 f_aId rfl 0 (by decide) (by decide) (by decide) d_Mo_record_66 ?_
  refine lv_if_eq (tgt := 83) hx hb d_Mo_record_67 (by decide) (fun hc23 => absurd hc23 (by rw [zId]; decide)) (fun hc23 => ?_)
  refine lv_sipush (v := 2048) hx hb d_Mo_record_70 (by decide) ?_
  refine lv_aload_n hx hb d_Mo_record_73 rfl (lv_at hl 1 rfl) ?_
  refine hm_get (ci := 9) (v := .ref aLo) (C := R_Mo) (T := F_Mo) (N := 41) hx hb hts ig_Mo hown hK hH f_m rfl 26 (by decide) (hts _ mw_413) (fun _ h9 => h9) rfl d_Mo_record_74 ?_
  refine lv_iload_n hx hb d_Mo_record_77 rfl (lv_at hl 4 rfl) ?_
  refine hj_iald hx hb hK hH 2 f_aLo rfl 0 (by decide) (by decide) (by decide) d_Mo_record_78 ?_
  refine lv_imul hx hb d_Mo_record_79 ?_
  refine lv_goto (tgt := 89) hx hb d_Mo_record_80 (by decide) ?_
  refine hm_callv (va_runV (As := [.int ((nI P9) + 10), .int 4, .int (2048 * (gLo 0))]) (b := mo) (rest := []) ⟨hx, hb, hml, hown, hts⟩ (c_m_both l D t G ak av h18 mo n aBy aSt aDe aPa aIt aId aPr aNa aSi aSe aIw aEx aOl aPl aTa aAt aLo aS1 aS2 aS3 aS4 aS5 aS6 aO1 aO2 aO3 aO4 aO5 dr wt g22 (P9 + 10) 4 (nI P9 + 10) 4 (2048 * gLo 0) f_m f_aPl (nI_add _ _) rfl (by omega)) ⟨cw9B 3 hts mw_503 mw_504 mw_428 rfl rfl (by decide +kernel) ⟨Nat.le_of_ble_eq_true rfl, Nat.le_of_ble_eq_true rfl⟩, hts _ mw_505, hts _ mw_506⟩ (hP_V (q := (R_Mo, F_Mo, 41)) kE_ok hE hK hH f_m rfl) rfl rfl hl.1 rfl (lv_room (Nat.le_of_ble_eq_true rfl)) d_Mo_record_89 ⟨Nat.le_of_ble_eq_true rfl, Nat.le_of_ble_eq_true rfl⟩) hLo (fun h24 H25 locs hp27 hH z26 hLo => ?_)
  have hz : s.heap.size ≤ H25.size := Nat.le_trans hz z26
  obtain ⟨hk9, g28, hg9⟩ := hp27
  have f_m : h24 mo = some (.inr (9, [.int 0, .int (nI n), .int 0, .ref aBy, .ref aSt, .ref aDe, .int 0, .int (-1), .int wt, .ref aPa, .int 1, .ref aIt, .ref aId, .ref aPr, .ref aNa, .ref aSi, .ref aSe, .ref aIw, .ref aEx, .ref aOl, .int 0, .ref aPl, .int dr, .int 0, .ref aTa, .ref aAt, .ref aLo, .int 0, .int 0, .ref aS1, .ref aS2, .ref aS3, .ref aS4, .ref aS5, .ref aS6, .int 0, .ref aO1, .ref aO2, .ref aO3, .ref aO4, .ref aO5])) := kp_at hk9 f_m (nmc (Ne.symm (h_neA f_aPl f_m)) nm0)
  have f_aId : h24 aId = some (.inl ((t 1), 700, .inl gId)) := kp_at hk9 f_aId (nmc (h_neL (k1 := 700) (k2 := 163840) f_aId f_aPl rfl rfl (by omega)) nm0)
  have f_aAt : h24 aAt = some (.inl ((t 2), 700, .inl gAt)) := kp_at hk9 f_aAt (nmc (h_neL (k1 := 700) (k2 := 163840) f_aAt f_aPl rfl rfl (by omega)) nm0)
  have f_aLo : h24 aLo = some (.inl ((t 2), 700, .inl gLo)) := kp_at hk9 f_aLo (nmc (h_neL (k1 := 700) (k2 := 163840) f_aLo f_aPl rfl rfl (by omega)) nm0)
  have hkp : kp [aPl] h h24 := kp_tr2 hkp hk9 (List.forall_mem_cons.mpr ⟨Or.inl (by simp), List.forall_mem_nil _⟩)
  have f_aPl : h24 aPl = some (.inl ((t 0), 163840, .inl g28)) := hg9
  refine lv_aload_n hx hb d_Mo_record_92 rfl (lv_at hl 1 rfl) ?_
  refine hm_get (ci := 9) (v := .ref aPl) (C := R_Mo) (T := F_Mo) (N := 41) hx hb hts ig_Mo hown hK hH f_m rfl 21 (by decide) (hts _ mw_410) (fun _ h9 => h9) rfl d_Mo_record_93 ?_
  refine lv_iload_n hx hb d_Mo_record_96 rfl (lv_at hl 2 rfl) ?_
  refine lv_bipush (v := 25) hx hb d_Mo_record_97 (by decide) ?_
  refine lv_iadd hx hb d_Mo_record_99 ?_
  refine lv_aload_n hx hb d_Mo_record_100 rfl (lv_at hl 1 rfl) ?_
  refine hm_get (ci := 9) (v := .ref aId) (C := R_Mo) (T := F_Mo) (N := 41) hx hb hts ig_Mo hown hK hH f_m rfl 12 (by decide) (hts _ mw_392) (fun _ h9 => h9) rfl d_Mo_record_101 ?_
  refine lv_iload_n hx hb d_Mo_record_104 rfl (lv_at hl 4 rfl) ?_
  refine hj_zald hx hb hK hH 1 f_aId rfl 0 (by decide) (by decide) (by decide) d_Mo_record_105 ?_
  refine lv_if_eq (tgt := 113) hx hb d_Mo_record_106 (by decide) (fun hc29 => absurd hc29 (by rw [zId]; decide)) (fun hc29 => ?_)
  refine lv_iconst (v := 2) hx hb d_Mo_record_109 (by decide) ?_
  refine lv_goto (tgt := 114) hx hb d_Mo_record_110 (by decide) ?_
  refine lv_i2b (v := (2 : Int32).toInt8.toInt32) hx hb d_Mo_record_114 rfl ?_
  refine hj_bast hx hb hK hH hLo 0 f_aPl rfl (P9 + 25) (nI_add _ _) (by omega) (by decide) d_Mo_record_115 (fun H30 locs hH z31 hLo => ?_)
  have hz : s.heap.size ≤ H30.size := by rw [z31]; exact hz
  obtain ⟨h32, e33⟩ : ∃ z, z = hu h24 aPl (.inl ((t 0), 163840, .inl (upd g28 (P9 + 25) (vp_nar .byte ((2 : Int32).toInt8.toInt32))))) := ⟨_, rfl⟩
  have hH : hm D vwCl G h32 H30 := by rw [e33]; exact hH
  have f_m : h32 mo = some (.inr (9, [.int 0, .int (nI n), .int 0, .ref aBy, .ref aSt, .ref aDe, .int 0, .int (-1), .int wt, .ref aPa, .int 1, .ref aIt, .ref aId, .ref aPr, .ref aNa, .ref aSi, .ref aSe, .ref aIw, .ref aEx, .ref aOl, .int 0, .ref aPl, .int dr, .int 0, .ref aTa, .ref aAt, .ref aLo, .int 0, .int 0, .ref aS1, .ref aS2, .ref aS3, .ref aS4, .ref aS5, .ref aS6, .int 0, .ref aO1, .ref aO2, .ref aO3, .ref aO4, .ref aO5])) := by rw [e33, hu_n (Ne.symm (h_neA f_aPl f_m))]; exact f_m
  have f_aId : h32 aId = some (.inl ((t 1), 700, .inl gId)) := by rw [e33, hu_n (h_neL (k1 := 700) (k2 := 163840) f_aId f_aPl rfl rfl (by omega))]; exact f_aId
  have f_aAt : h32 aAt = some (.inl ((t 2), 700, .inl gAt)) := by rw [e33, hu_n (h_neL (k1 := 700) (k2 := 163840) f_aAt f_aPl rfl rfl (by omega))]; exact f_aAt
  have f_aLo : h32 aLo = some (.inl ((t 2), 700, .inl gLo)) := by rw [e33, hu_n (h_neL (k1 := 700) (k2 := 163840) f_aLo f_aPl rfl rfl (by omega))]; exact f_aLo
  have f_aPl : h32 aPl = some (.inl ((t 0), 163840, .inl (upd g28 (P9 + 25) (vp_nar .byte ((2 : Int32).toInt8.toInt32))))) := by rw [e33]; exact hu_s _ _ _
  have hkp : kp [aPl] h h32 := by rw [e33]; exact kp_put hkp (by simp)
  refine lv_aload_n hx hb d_Mo_record_116 rfl (lv_at hl 1 rfl) ?_
  refine lv_iload_n hx hb d_Mo_record_117 rfl (lv_at hl 2 rfl) ?_
  refine lv_bipush (v := 28) hx hb d_Mo_record_118 (by decide) ?_
  refine lv_iadd hx hb d_Mo_record_120 ?_
  refine lv_iconst (v := 2) hx hb d_Mo_record_121 (by decide) ?_
  refine lv_iconst (v := 1) hx hb d_Mo_record_122 (by decide) ?_
  refine hm_callv (va_runV (As := [.int ((nI P9) + 28), .int 2, .int 1]) (b := mo) (rest := []) ⟨hx, hb, hml, hown, hts⟩ (c_m_both l D t G ak av h32 mo n aBy aSt aDe aPa aIt aId aPr aNa aSi aSe aIw aEx aOl aPl aTa aAt aLo aS1 aS2 aS3 aS4 aS5 aS6 aO1 aO2 aO3 aO4 aO5 dr wt (upd g28 (P9 + 25) (vp_nar .byte ((2 : Int32).toInt8.toInt32))) (P9 + 28) 2 (nI P9 + 28) 2 1 f_m f_aPl (nI_add _ _) rfl (by omega)) ⟨cw9B 3 hts mw_503 mw_504 mw_428 rfl rfl (by decide +kernel) ⟨Nat.le_of_ble_eq_true rfl, Nat.le_of_ble_eq_true rfl⟩, hts _ mw_505, hts _ mw_506⟩ (hP_V (q := (R_Mo, F_Mo, 41)) kE_ok hE hK hH f_m rfl) rfl rfl hl.1 rfl (lv_room (Nat.le_of_ble_eq_true rfl)) d_Mo_record_123 ⟨Nat.le_of_ble_eq_true rfl, Nat.le_of_ble_eq_true rfl⟩) hLo (fun h34 H35 locs hp37 hH z36 hLo => ?_)
  have hz : s.heap.size ≤ H35.size := Nat.le_trans hz z36
  obtain ⟨hk9, g38, hg9⟩ := hp37
  have f_m : h34 mo = some (.inr (9, [.int 0, .int (nI n), .int 0, .ref aBy, .ref aSt, .ref aDe, .int 0, .int (-1), .int wt, .ref aPa, .int 1, .ref aIt, .ref aId, .ref aPr, .ref aNa, .ref aSi, .ref aSe, .ref aIw, .ref aEx, .ref aOl, .int 0, .ref aPl, .int dr, .int 0, .ref aTa, .ref aAt, .ref aLo, .int 0, .int 0, .ref aS1, .ref aS2, .ref aS3, .ref aS4, .ref aS5, .ref aS6, .int 0, .ref aO1, .ref aO2, .ref aO3, .ref aO4, .ref aO5])) := kp_at hk9 f_m (nmc (Ne.symm (h_neA f_aPl f_m)) nm0)
  have f_aId : h34 aId = some (.inl ((t 1), 700, .inl gId)) := kp_at hk9 f_aId (nmc (h_neL (k1 := 700) (k2 := 163840) f_aId f_aPl rfl rfl (by omega)) nm0)
  have f_aAt : h34 aAt = some (.inl ((t 2), 700, .inl gAt)) := kp_at hk9 f_aAt (nmc (h_neL (k1 := 700) (k2 := 163840) f_aAt f_aPl rfl rfl (by omega)) nm0)
  have f_aLo : h34 aLo = some (.inl ((t 2), 700, .inl gLo)) := kp_at hk9 f_aLo (nmc (h_neL (k1 := 700) (k2 := 163840) f_aLo f_aPl rfl rfl (by omega)) nm0)
  have hkp : kp [aPl] h h34 := kp_tr2 hkp hk9 (List.forall_mem_cons.mpr ⟨Or.inl (by simp), List.forall_mem_nil _⟩)
  have f_aPl : h34 aPl = some (.inl ((t 0), 163840, .inl g38)) := hg9
  refine lv_aload_n hx hb d_Mo_record_126 rfl (lv_at hl 1 rfl) ?_
  refine hm_get (ci := 9) (v := .ref aPl) (C := R_Mo) (T := F_Mo) (N := 41) hx hb hts ig_Mo hown hK hH f_m rfl 21 (by decide) (hts _ mw_410) (fun _ h9 => h9) rfl d_Mo_record_127 ?_
  refine lv_iload_n hx hb d_Mo_record_130 rfl (lv_at hl 2 rfl) ?_
  refine lv_bipush (v := 32) hx hb d_Mo_record_131 (by decide) ?_
  refine lv_iadd hx hb d_Mo_record_133 ?_
  refine lv_iload hx hb d_Mo_record_134 (lv_at hl 0 rfl) ?_
  refine lv_i2b (v := (1 : Int32).toInt8.toInt32) hx hb d_Mo_record_136 rfl ?_
  refine hj_bast hx hb hK hH hLo 0 f_aPl rfl (P9 + 32) (nI_add _ _) (by omega) (by decide) d_Mo_record_137 (fun H39 locs hH z40 hLo => ?_)
  have hz : s.heap.size ≤ H39.size := by rw [z40]; exact hz
  obtain ⟨h41, e42⟩ : ∃ z, z = hu h34 aPl (.inl ((t 0), 163840, .inl (upd g38 (P9 + 32) (vp_nar .byte ((1 : Int32).toInt8.toInt32))))) := ⟨_, rfl⟩
  have hH : hm D vwCl G h41 H39 := by rw [e42]; exact hH
  have f_m : h41 mo = some (.inr (9, [.int 0, .int (nI n), .int 0, .ref aBy, .ref aSt, .ref aDe, .int 0, .int (-1), .int wt, .ref aPa, .int 1, .ref aIt, .ref aId, .ref aPr, .ref aNa, .ref aSi, .ref aSe, .ref aIw, .ref aEx, .ref aOl, .int 0, .ref aPl, .int dr, .int 0, .ref aTa, .ref aAt, .ref aLo, .int 0, .int 0, .ref aS1, .ref aS2, .ref aS3, .ref aS4, .ref aS5, .ref aS6, .int 0, .ref aO1, .ref aO2, .ref aO3, .ref aO4, .ref aO5])) := by rw [e42, hu_n (Ne.symm (h_neA f_aPl f_m))]; exact f_m
  have f_aId : h41 aId = some (.inl ((t 1), 700, .inl gId)) := by rw [e42, hu_n (h_neL (k1 := 700) (k2 := 163840) f_aId f_aPl rfl rfl (by omega))]; exact f_aId
  have f_aAt : h41 aAt = some (.inl ((t 2), 700, .inl gAt)) := by rw [e42, hu_n (h_neL (k1 := 700) (k2 := 163840) f_aAt f_aPl rfl rfl (by omega))]; exact f_aAt
  have f_aLo : h41 aLo = some (.inl ((t 2), 700, .inl gLo)) := by rw [e42, hu_n (h_neL (k1 := 700) (k2 := 163840) f_aLo f_aPl rfl rfl (by omega))]; exact f_aLo
  have f_aPl : h41 aPl = some (.inl ((t 0), 163840, .inl (upd g38 (P9 + 32) (vp_nar .byte ((1 : Int32).toInt8.toInt32))))) := by rw [e42]; exact hu_s _ _ _
  have hkp : kp [aPl] h h41 := by rw [e42]; exact kp_put hkp (by simp)
  refine lv_iconst (v := 0) hx hb d_Mo_record_138 (by decide) ?_
  refine lv_istore (lv' := [(5, .int 0), (4, .int 1), (0, .ref mo), (1, .int (nI P9)), (2, .int so), (3, .int 0)]) hx hb d_Mo_record_139 hl (by decide) rfl (fun ls hl => ?_)
  refine lv_iload hx hb d_Mo_record_141 (lv_at hl 0 rfl) ?_
  refine lv_iload hx hb d_Mo_record_143 (lv_at hl 1 rfl) ?_
  refine lv_icmp_ge (tgt := 193) hx hb d_Mo_record_145 (by decide) (fun hc43 => absurd hc43 (by decide)) (fun hc43 => ?_)
  refine lv_aload_n hx hb d_Mo_record_148 rfl (lv_at hl 2 rfl) ?_
  refine hm_get (ci := 9) (v := .ref aPl) (C := R_Mo) (T := F_Mo) (N := 41) hx hb hts ig_Mo hown hK hH f_m rfl 21 (by decide) (hts _ mw_410) (fun _ h9 => h9) rfl d_Mo_record_149 ?_
  refine lv_iload_n hx hb d_Mo_record_152 rfl (lv_at hl 3 rfl) ?_
  refine lv_bipush (v := 33) hx hb d_Mo_record_153 (by decide) ?_
  refine lv_iadd hx hb d_Mo_record_155 ?_
  refine lv_iload hx hb d_Mo_record_156 (lv_at hl 0 rfl) ?_
  refine lv_iadd hx hb d_Mo_record_158 ?_
  refine lv_iload_n hx hb d_Mo_record_159 rfl (lv_at hl 4 rfl) ?_
  refine lv_iconst (v := 2) hx hb d_Mo_record_160 (by decide) ?_
  refine lv_icmp_ge (tgt := 168) hx hb d_Mo_record_161 (by decide) (fun hc44 => absurd hc44 hso) (fun hc44 => ?_)
  refine lv_iload_n hx hb d_Mo_record_164 rfl (lv_at hl 4 rfl) ?_
  refine lv_goto (tgt := 185) hx hb d_Mo_record_165 (by decide) ?_
  refine lv_i2b (v := so.toInt8.toInt32) hx hb d_Mo_record_185 rfl ?_
  refine hj_bast hx hb hK hH hLo 0 f_aPl rfl (P9 + 33) (by rw [Int32.add_zero]; exact nI_add _ _) (by omega) (by decide) d_Mo_record_186 (fun H45 locs hH z46 hLo => ?_)
  have hz : s.heap.size ≤ H45.size := by rw [z46]; exact hz
  obtain ⟨h47, e48⟩ : ∃ z, z = hu h41 aPl (.inl ((t 0), 163840, .inl (upd (upd g38 (P9 + 32) (vp_nar .byte ((1 : Int32).toInt8.toInt32))) (P9 + 33) (vp_nar .byte so.toInt8.toInt32)))) := ⟨_, rfl⟩
  have hH : hm D vwCl G h47 H45 := by rw [e48]; exact hH
  have f_m : h47 mo = some (.inr (9, [.int 0, .int (nI n), .int 0, .ref aBy, .ref aSt, .ref aDe, .int 0, .int (-1), .int wt, .ref aPa, .int 1, .ref aIt, .ref aId, .ref aPr, .ref aNa, .ref aSi, .ref aSe, .ref aIw, .ref aEx, .ref aOl, .int 0, .ref aPl, .int dr, .int 0, .ref aTa, .ref aAt, .ref aLo, .int 0, .int 0, .ref aS1, .ref aS2, .ref aS3, .ref aS4, .ref aS5, .ref aS6, .int 0, .ref aO1, .ref aO2, .ref aO3, .ref aO4, .ref aO5])) := by rw [e48, hu_n (Ne.symm (h_neA f_aPl f_m))]; exact f_m
  have f_aId : h47 aId = some (.inl ((t 1), 700, .inl gId)) := by rw [e48, hu_n (h_neL (k1 := 700) (k2 := 163840) f_aId f_aPl rfl rfl (by omega))]; exact f_aId
  have f_aAt : h47 aAt = some (.inl ((t 2), 700, .inl gAt)) := by rw [e48, hu_n (h_neL (k1 := 700) (k2 := 163840) f_aAt f_aPl rfl rfl (by omega))]; exact f_aAt
  have f_aLo : h47 aLo = some (.inl ((t 2), 700, .inl gLo)) := by rw [e48, hu_n (h_neL (k1 := 700) (k2 := 163840) f_aLo f_aPl rfl rfl (by omega))]; exact f_aLo
  have f_aPl : h47 aPl = some (.inl ((t 0), 163840, .inl (upd (upd g38 (P9 + 32) (vp_nar .byte ((1 : Int32).toInt8.toInt32))) (P9 + 33) (vp_nar .byte so.toInt8.toInt32)))) := by rw [e48]; exact hu_s _ _ _
  have hkp : kp [aPl] h h47 := by rw [e48]; exact kp_put hkp (by simp)
  refine lv_iinc (v := 0 + 1) (lv' := [(5, .int (0 + 1)), (4, .int 1), (0, .ref mo), (1, .int (nI P9)), (2, .int so), (3, .int 0)]) hx hb d_Mo_record_187 hl (k := 0) rfl (by rfl) (by decide) rfl (fun ls hl => ?_)
  refine lv_goto (tgt := 141) hx hb d_Mo_record_190 (by decide) ?_
  refine lv_iload hx hb d_Mo_record_141 (lv_at hl 0 rfl) ?_
  refine lv_iload hx hb d_Mo_record_143 (lv_at hl 1 rfl) ?_
  refine lv_icmp_ge (tgt := 193) hx hb d_Mo_record_145 (by decide) (fun hc49 => ?_) (fun hc49 => absurd (by decide) hc49)
  exact W.vret hx hb hr (fun t9 ht hW => ⟨h47, rfl, ⟨hkp, _, f_aPl⟩, by rw [ht]; exact hH, by rw [ht]; exact hz⟩) hLo d_Mo_record_193
