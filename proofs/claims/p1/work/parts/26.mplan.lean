set_option maxRecDepth 100000 in
theorem mw_488 : Cond.code y_Mo_low b_Mo_low 5 none ∈ lw_g := lw_gin (List.mem_append_right _ (List.mem_of_getElem? (i := 1193) rfl)) (by decide +kernel)
set_option maxRecDepth 100000 in
theorem mw_489 : Cond.methodLink R_Mo 181 y_Mo_low ∈ lw_g := lw_gin (List.mem_append_right _ (List.mem_of_getElem? (i := 1190) rfl)) (by decide +kernel)
set_option maxRecDepth 100000 in
theorem mw_490 : Cond.instanceMethod y_Mo_low ∈ lw_g := lw_gin (List.mem_append_right _ (List.mem_of_getElem? (i := 1192) rfl)) (by decide +kernel)
set_option maxRecDepth 100000 in
theorem mw_491 : Cond.selects R_Mo y_Mo_low y_Mo_low ∈ lw_g := lw_gin (List.mem_append_left _ (List.mem_of_getElem? (i := 47) rfl)) (by decide +kernel)
set_option maxRecDepth 100000 in
theorem mw_492 : Cond.code y_Mo_high b_Mo_high 5 none ∈ lw_g := lw_gin (List.mem_append_right _ (List.mem_of_getElem? (i := 1197) rfl)) (by decide +kernel)
set_option maxRecDepth 100000 in
theorem mw_493 : Cond.methodLink R_Mo 185 y_Mo_high ∈ lw_g := lw_gin (List.mem_append_right _ (List.mem_of_getElem? (i := 1194) rfl)) (by decide +kernel)
set_option maxRecDepth 100000 in
theorem mw_494 : Cond.instanceMethod y_Mo_high ∈ lw_g := lw_gin (List.mem_append_right _ (List.mem_of_getElem? (i := 1196) rfl)) (by decide +kernel)
set_option maxRecDepth 100000 in
theorem mw_495 : Cond.selects R_Mo y_Mo_high y_Mo_high ∈ lw_g := lw_gin (List.mem_append_left _ (List.mem_of_getElem? (i := 48) rfl)) (by decide +kernel)
theorem d_Mo_low_0 : decode b_Mo_low 0 = .ok (.iconst 0, 1) := by decide +kernel
theorem d_Mo_low_1 : decode b_Mo_low 1 = .ok (.istore 4, 2) := by decide +kernel
theorem d_Mo_low_3 : decode b_Mo_low 3 = .ok (.iload 4, 2) := by decide +kernel
theorem d_Mo_low_5 : decode b_Mo_low 5 = .ok (.iload_n 2, 1) := by decide +kernel
theorem d_Mo_low_6 : decode b_Mo_low 6 = .ok (.if_icmp .ge 26, 3) := by decide +kernel
theorem d_Mo_low_32 : decode b_Mo_low 32 = .ok (.return_, 1) := by decide +kernel
theorem d_Mo_low_9 : decode b_Mo_low 9 = .ok (.aload_n 0, 1) := by decide +kernel
theorem d_Mo_low_10 : decode b_Mo_low 10 = .ok (.getfield 54, 3) := by decide +kernel
theorem d_Mo_low_13 : decode b_Mo_low 13 = .ok (.iload_n 1, 1) := by decide +kernel
theorem d_Mo_low_14 : decode b_Mo_low 14 = .ok (.iload 4, 2) := by decide +kernel
theorem d_Mo_low_16 : decode b_Mo_low 16 = .ok (.iadd, 1) := by decide +kernel
theorem d_Mo_low_17 : decode b_Mo_low 17 = .ok (.iload_n 3, 1) := by decide +kernel
theorem d_Mo_low_18 : decode b_Mo_low 18 = .ok (.bipush 8, 2) := by decide +kernel
theorem d_Mo_low_20 : decode b_Mo_low 20 = .ok (.iload 4, 2) := by decide +kernel
theorem d_Mo_low_22 : decode b_Mo_low 22 = .ok (.imul, 1) := by decide +kernel
theorem d_Mo_low_23 : decode b_Mo_low 23 = .ok (.ishr, 1) := by decide +kernel
theorem d_Mo_low_24 : decode b_Mo_low 24 = .ok (.i2b, 1) := by decide +kernel
theorem d_Mo_low_25 : decode b_Mo_low 25 = .ok (.bastore, 1) := by decide +kernel
theorem d_Mo_low_26 : decode b_Mo_low 26 = .ok (.iinc 4 1, 3) := by decide +kernel
theorem d_Mo_low_29 : decode b_Mo_low 29 = .ok (.goto (-26), 3) := by decide +kernel
theorem d_Mo_high_0 : decode b_Mo_high 0 = .ok (.iconst 0, 1) := by decide +kernel
theorem d_Mo_high_1 : decode b_Mo_high 1 = .ok (.istore 4, 2) := by decide +kernel
theorem d_Mo_high_3 : decode b_Mo_high 3 = .ok (.iload 4, 2) := by decide +kernel
theorem d_Mo_high_5 : decode b_Mo_high 5 = .ok (.iload_n 2, 1) := by decide +kernel
theorem d_Mo_high_6 : decode b_Mo_high 6 = .ok (.if_icmp .ge 30, 3) := by decide +kernel
theorem d_Mo_high_36 : decode b_Mo_high 36 = .ok (.return_, 1) := by decide +kernel
theorem d_Mo_high_9 : decode b_Mo_high 9 = .ok (.aload_n 0, 1) := by decide +kernel
theorem d_Mo_high_10 : decode b_Mo_high 10 = .ok (.getfield 54, 3) := by decide +kernel
theorem d_Mo_high_13 : decode b_Mo_high 13 = .ok (.iload_n 1, 1) := by decide +kernel
theorem d_Mo_high_14 : decode b_Mo_high 14 = .ok (.iload 4, 2) := by decide +kernel
theorem d_Mo_high_16 : decode b_Mo_high 16 = .ok (.iadd, 1) := by decide +kernel
theorem d_Mo_high_17 : decode b_Mo_high 17 = .ok (.iload_n 3, 1) := by decide +kernel
theorem d_Mo_high_18 : decode b_Mo_high 18 = .ok (.bipush 8, 2) := by decide +kernel
theorem d_Mo_high_20 : decode b_Mo_high 20 = .ok (.iload_n 2, 1) := by decide +kernel
theorem d_Mo_high_21 : decode b_Mo_high 21 = .ok (.iconst 1, 1) := by decide +kernel
theorem d_Mo_high_22 : decode b_Mo_high 22 = .ok (.isub, 1) := by decide +kernel
theorem d_Mo_high_23 : decode b_Mo_high 23 = .ok (.iload 4, 2) := by decide +kernel
theorem d_Mo_high_25 : decode b_Mo_high 25 = .ok (.isub, 1) := by decide +kernel
theorem d_Mo_high_26 : decode b_Mo_high 26 = .ok (.imul, 1) := by decide +kernel
theorem d_Mo_high_27 : decode b_Mo_high 27 = .ok (.ishr, 1) := by decide +kernel
theorem d_Mo_high_28 : decode b_Mo_high 28 = .ok (.i2b, 1) := by decide +kernel
theorem d_Mo_high_29 : decode b_Mo_high 29 = .ok (.bastore, 1) := by decide +kernel
theorem d_Mo_high_30 : decode b_Mo_high 30 = .ok (.iinc 4 1, 3) := by decide +kernel
theorem d_Mo_high_33 : decode b_Mo_high 33 = .ok (.goto (-30), 3) := by decide +kernel
theorem d_Mo_both_0 : decode b_Mo_both 0 = .ok (.aload_n 0, 1) := by decide +kernel
theorem d_Mo_both_1 : decode b_Mo_both 1 = .ok (.iload_n 1, 1) := by decide +kernel
theorem d_Mo_both_2 : decode b_Mo_both 2 = .ok (.iload_n 2, 1) := by decide +kernel
theorem d_Mo_both_3 : decode b_Mo_both 3 = .ok (.iload_n 3, 1) := by decide +kernel
theorem d_Mo_both_4 : decode b_Mo_both 4 = .ok (.invokevirtual 181, 3) := by decide +kernel
theorem d_Mo_both_7 : decode b_Mo_both 7 = .ok (.aload_n 0, 1) := by decide +kernel
theorem d_Mo_both_8 : decode b_Mo_both 8 = .ok (.iload_n 1, 1) := by decide +kernel
theorem d_Mo_both_9 : decode b_Mo_both 9 = .ok (.iload_n 2, 1) := by decide +kernel
theorem d_Mo_both_10 : decode b_Mo_both 10 = .ok (.iadd, 1) := by decide +kernel
theorem d_Mo_both_11 : decode b_Mo_both 11 = .ok (.iload_n 2, 1) := by decide +kernel
theorem d_Mo_both_12 : decode b_Mo_both 12 = .ok (.iload_n 3, 1) := by decide +kernel
theorem d_Mo_both_13 : decode b_Mo_both 13 = .ok (.invokevirtual 185, 3) := by decide +kernel
theorem d_Mo_both_16 : decode b_Mo_both 16 = .ok (.return_, 1) := by decide +kernel
theorem d_Mo_letters_0 : decode b_Mo_letters 0 = .ok (.aload_n 0, 1) := by decide +kernel
theorem d_Mo_letters_1 : decode b_Mo_letters 1 = .ok (.getfield 54, 3) := by decide +kernel
theorem d_Mo_letters_4 : decode b_Mo_letters 4 = .ok (.iload_n 1, 1) := by decide +kernel
theorem d_Mo_letters_5 : decode b_Mo_letters 5 = .ok (.iload_n 2, 1) := by decide +kernel
theorem d_Mo_letters_6 : decode b_Mo_letters 6 = .ok (.i2b, 1) := by decide +kernel
theorem d_Mo_letters_7 : decode b_Mo_letters 7 = .ok (.bastore, 1) := by decide +kernel
theorem d_Mo_letters_8 : decode b_Mo_letters 8 = .ok (.aload_n 0, 1) := by decide +kernel
theorem d_Mo_letters_9 : decode b_Mo_letters 9 = .ok (.getfield 54, 3) := by decide +kernel
theorem d_Mo_letters_12 : decode b_Mo_letters 12 = .ok (.iload_n 1, 1) := by decide +kernel
theorem d_Mo_letters_13 : decode b_Mo_letters 13 = .ok (.iconst 1, 1) := by decide +kernel
theorem d_Mo_letters_14 : decode b_Mo_letters 14 = .ok (.iadd, 1) := by decide +kernel
theorem d_Mo_letters_15 : decode b_Mo_letters 15 = .ok (.iload_n 3, 1) := by decide +kernel
theorem d_Mo_letters_16 : decode b_Mo_letters 16 = .ok (.i2b, 1) := by decide +kernel
theorem d_Mo_letters_17 : decode b_Mo_letters 17 = .ok (.bastore, 1) := by decide +kernel
theorem d_Mo_letters_18 : decode b_Mo_letters 18 = .ok (.aload_n 0, 1) := by decide +kernel
theorem d_Mo_letters_19 : decode b_Mo_letters 19 = .ok (.getfield 54, 3) := by decide +kernel
theorem d_Mo_letters_22 : decode b_Mo_letters 22 = .ok (.iload_n 1, 1) := by decide +kernel
theorem d_Mo_letters_23 : decode b_Mo_letters 23 = .ok (.iconst 2, 1) := by decide +kernel
theorem d_Mo_letters_24 : decode b_Mo_letters 24 = .ok (.iadd, 1) := by decide +kernel
theorem d_Mo_letters_25 : decode b_Mo_letters 25 = .ok (.iload 4, 2) := by decide +kernel
theorem d_Mo_letters_27 : decode b_Mo_letters 27 = .ok (.i2b, 1) := by decide +kernel
theorem d_Mo_letters_28 : decode b_Mo_letters 28 = .ok (.bastore, 1) := by decide +kernel
theorem d_Mo_letters_29 : decode b_Mo_letters 29 = .ok (.aload_n 0, 1) := by decide +kernel
theorem d_Mo_letters_30 : decode b_Mo_letters 30 = .ok (.getfield 54, 3) := by decide +kernel
theorem d_Mo_letters_33 : decode b_Mo_letters 33 = .ok (.iload_n 1, 1) := by decide +kernel
theorem d_Mo_letters_34 : decode b_Mo_letters 34 = .ok (.iconst 3, 1) := by decide +kernel
theorem d_Mo_letters_35 : decode b_Mo_letters 35 = .ok (.iadd, 1) := by decide +kernel
theorem d_Mo_letters_36 : decode b_Mo_letters 36 = .ok (.iload 5, 2) := by decide +kernel
theorem d_Mo_letters_38 : decode b_Mo_letters 38 = .ok (.i2b, 1) := by decide +kernel
theorem d_Mo_letters_39 : decode b_Mo_letters 39 = .ok (.bastore, 1) := by decide +kernel
theorem d_Mo_letters_40 : decode b_Mo_letters 40 = .ok (.aload_n 0, 1) := by decide +kernel
theorem d_Mo_letters_41 : decode b_Mo_letters 41 = .ok (.getfield 54, 3) := by decide +kernel
theorem d_Mo_letters_44 : decode b_Mo_letters 44 = .ok (.iload_n 1, 1) := by decide +kernel
theorem d_Mo_letters_45 : decode b_Mo_letters 45 = .ok (.iconst 4, 1) := by decide +kernel
theorem d_Mo_letters_46 : decode b_Mo_letters 46 = .ok (.iadd, 1) := by decide +kernel
theorem d_Mo_letters_47 : decode b_Mo_letters 47 = .ok (.iload 6, 2) := by decide +kernel
theorem d_Mo_letters_49 : decode b_Mo_letters 49 = .ok (.i2b, 1) := by decide +kernel
theorem d_Mo_letters_50 : decode b_Mo_letters 50 = .ok (.bastore, 1) := by decide +kernel
theorem d_Mo_letters_51 : decode b_Mo_letters 51 = .ok (.return_, 1) := by decide +kernel
theorem d_Mo_even_0 : decode b_Mo_even 0 = .ok (.iload_n 0, 1) := by decide +kernel
theorem d_Mo_even_1 : decode b_Mo_even 1 = .ok (.iload_n 0, 1) := by decide +kernel
theorem d_Mo_even_2 : decode b_Mo_even 2 = .ok (.iconst 2, 1) := by decide +kernel
theorem d_Mo_even_3 : decode b_Mo_even 3 = .ok (.irem, 1) := by decide +kernel
theorem d_Mo_even_4 : decode b_Mo_even 4 = .ok (.iadd, 1) := by decide +kernel
theorem d_Mo_even_5 : decode b_Mo_even 5 = .ok (.ireturn, 1) := by decide +kernel
theorem d_Mo_recordId_0 : decode b_Mo_recordId 0 = .ok (.iload_n 1, 1) := by decide +kernel
theorem d_Mo_recordId_1 : decode b_Mo_recordId 1 = .ok (.iconst 2, 1) := by decide +kernel
theorem d_Mo_recordId_2 : decode b_Mo_recordId 2 = .ok (.if_icmp .ge 7, 3) := by decide +kernel
theorem d_Mo_recordId_5 : decode b_Mo_recordId 5 = .ok (.iconst 1, 1) := by decide +kernel
theorem d_Mo_recordId_6 : decode b_Mo_recordId 6 = .ok (.goto 18, 3) := by decide +kernel
theorem d_Mo_recordId_24 : decode b_Mo_recordId 24 = .ok (.ireturn, 1) := by decide +kernel
theorem nI_m1 (j : Nat) : nI (j + 1) + Int32.ofInt (-1) = nI j := by
  rw [show Int32.ofInt (-1) = -1 from rfl, ← Int32.sub_eq_add_neg, nI_pred]
theorem nI_sub9 {a b : Nat} (h : b ≤ a) : nI a - nI b = nI (a - b) := by
  obtain ⟨k, rfl⟩ : ∃ k, a = k + b := ⟨a - b, by omega⟩
  rw [← nI_add, Int32.add_sub_cancel, Nat.add_sub_cancel]
theorem se_le {n : Nat} (h : 40 ≤ n) (hn : n ≤ 200) : (0 + 22 : Int32) ≤ nI n := by
  rw [show (0 + 22 : Int32) = nI 22 from by decide]
  exact nI_le (by omega) (by omega)
theorem upd_z {f : Nat → Int32} (h : ∀ j, f j = 0) (k : Nat) {x : Int32} (hx : x = 0) : ∀ j, upd f k x j = 0 := by
  intro j
  by_cases hj : j = k
  · rw [hj, pk_us, hx]
  · rw [pk_un (f := f) hj]
    exact h j
theorem ix9 (a b k : Nat) : 2048 * (nI a + nI b) + nI k = nI (2048 * (a + b) + k) := by
  rw [nI_add, show (2048 : Int32) = nI 2048 from rfl, nI_mul9, nI_add]
theorem ix8 {a : Nat} (k : Nat) (h : 16 ≤ a) : 2048 * (nI a - 16) + nI k = nI (2048 * (a - 16) + k) := by
  rw [show (16 : Int32) = nI 16 from rfl, nI_sub9 h, show (2048 : Int32) = nI 2048 from rfl, nI_mul9, nI_add]
theorem ix7 (k : Nat) : 2048 * nI 200 + nI k = nI (409600 + k) := by
  rw [show (2048 : Int32) = nI 2048 from rfl, nI_mul9, nI_add]
theorem ix6 (a b : Nat) : nI a + nI (b + 1) - 1 = nI (a + b) := by
  rw [nI_add, show a + (b + 1) = a + b + 1 from rfl, nI_pred]

set_option maxHeartbeats 4000000 in
set_option maxRecDepth 100000 in
theorem c_m_low (l : Launch) (D : va_G) (t : Nat → ClassId) (G : hG) (ak av : Nat → Nat) (h : hM) (mo n aBy aSt aDe aPa aIt aId aPr aNa aSi aSe aIw aEx aOl aPl aTa aAt aLo aS1 aS2 aS3 aS4 aS5 aS6 aO1 aO2 aO3 aO4 aO5 : Nat) (dr wt : Int32) (gPl : Nat → Int32) (P9 K9 : Nat) (p9 k0 v9 : Int32) (f_m : h mo = some (.inr (9, [.int 0, .int (nI n), .int 0, .ref aBy, .ref aSt, .ref aDe, .int 0, .int (-1), .int wt, .ref aPa, .int 1, .ref aIt, .ref aId, .ref aPr, .ref aNa, .ref aSi, .ref aSe, .ref aIw, .ref aEx, .ref aOl, .int 0, .ref aPl, .int dr, .int 0, .ref aTa, .ref aAt, .ref aLo, .int 0, .int 0, .ref aS1, .ref aS2, .ref aS3, .ref aS4, .ref aS5, .ref aS6, .int 0, .ref aO1, .ref aO2, .ref aO3, .ref aO4, .ref aO5]))) (f_aPl : h aPl = some (.inl ((t 0), 163840, .inl gPl))) (hp9 : p9 = nI P9) (hk0 : k0 = nI K9) (hle : P9 + K9 ≤ 163840) : Met l y_Mo_low (.code y_Mo_low b_Mo_low 5 none :: lw_g) { frames := 0, cells := 0, slots := 0, locals := 0 } (hP (kE D t G ak av) D vwCl G h [.ref mo, .int p9, .int k0, .int v9]) (hQv D vwCl G (fun h' => kp [aPl] h h' ∧ ∃ g : Nat → Int32, h' aPl = some (.inl ((t 0), 163840, .inl g)))) 0 0 G.P := by
  refine Met.ofW (cc := b_Mo_low) (maxL := 5) (ret := none) (by decide) rfl ?_
  intro p e s m args below meth c s₁ Bd hml hv
  obtain ⟨ha, hE, hH⟩ := hv
  have hx := Bd.exec
  have hb := Bd.bytes
  have hr := Bd.returns
  have hts : ∀ w ∈ lw_g, w.before args s = true := fun w hw => atoms_spec (ws := (.code y_Mo_low b_Mo_low 5 none :: lw_g)) Bd.pre w (List.mem_cons_of_mem _ hw)
  have hown : s.vm.findClass R_Mo = some m.cls := findClass_of_methodNamed Bd.named
  have hlocks := Bd.notSynchronized
  have hK := hE.1
  have hH0 := hH
  have hLo : hLc G.P [] := hLc_nil
  have hz : s.heap.size ≤ s.heap.size := Nat.le_refl _
  have hkp : kp [aPl] h h := kp_rf
  have hl := lv_entry [.ref mo, .int p9, .int k0, .int v9] (n := 5) (Nat.le_of_ble_eq_true rfl)
  rw [show entryFrame m args 5 = F0 m 0 ((lg_sl [.ref mo, .int p9, .int k0, .int v9] ++ List.replicate (5 - (lg_sl [.ref mo, .int p9, .int k0, .int v9]).length) Slot.unset).toArray) [] from (by rw [ha]; exact lg_entry_eq m [.ref mo, .int p9, .int k0, .int v9] 5)]
  generalize (lg_sl [.ref mo, .int p9, .int k0, .int v9] ++ List.replicate (5 - (lg_sl [.ref mo, .int p9, .int k0, .int v9]).length) Slot.unset).toArray = ls at hl ⊢
  have hl : lv_has ls 5 [(0, .ref mo), (1, .int p9), (2, .int k0), (3, .int v9)] := hl
  subst hp9
  subst hk0
  refine lv_iconst (v := 0) hx hb d_Mo_low_0 (by decide) ?_
  refine lv_topi (fun v1 e2 => ?_)
  obtain rfl : v1 = nI 0 := e2.trans (by decide)
  refine lv_istore (lv' := [(4, .int (nI 0)), (0, .ref mo), (1, .int (nI P9)), (2, .int (nI K9)), (3, .int v9)]) hx hb d_Mo_low_1 hl (by decide) rfl (fun ls hl => ?_)
  refine hm_loop (fun k ls H locs hh => ∃ (k9 : Nat) (g9 : Nat → Int32), k = K9 - k9 ∧ lv_has ls 5 [(4, .int (nI k9)), (0, .ref mo), (1, .int (nI P9)), (2, .int (nI K9)), (3, .int v9)] ∧ hm D vwCl G hh H ∧ s.heap.size ≤ H.size ∧ hLc G.P locs ∧ kp [aPl] h hh ∧ hh mo = some (.inr (9, [.int 0, .int (nI n), .int 0, .ref aBy, .ref aSt, .ref aDe, .int 0, .int (-1), .int wt, .ref aPa, .int 1, .ref aIt, .ref aId, .ref aPr, .ref aNa, .ref aSi, .ref aSe, .ref aIw, .ref aEx, .ref aOl, .int 0, .ref aPl, .int dr, .int 0, .ref aTa, .ref aAt, .ref aLo, .int 0, .int 0, .ref aS1, .ref aS2, .ref aS3, .ref aS4, .ref aS5, .ref aS6, .int 0, .ref aO1, .ref aO2, .ref aO3, .ref aO4, .ref aO5])) ∧ hh aPl = some (.inl ((t 0), 163840, .inl g9)) ∧ (k9 ≤ K9)) ?_ (hh := h) ⟨0, gPl, rfl, (lv_sub hl [0, 1, 2, 3, 4] rfl), hH, hz, hLo, hkp, f_m, f_aPl, by omega⟩
  rintro k ls H locs hh ⟨k9, g9, hk, hl, hH, hz, hLo, hkp, f_m, f_aPl, hk9⟩ ih
  refine lv_iload hx hb d_Mo_low_3 (lv_at hl 0 rfl) ?_
  refine lv_iload_n hx hb d_Mo_low_5 rfl (lv_at hl 3 rfl) ?_
  refine lv_icmp_ge (tgt := 32) hx hb d_Mo_low_6 (by decide) (fun hc3 => ?_) (fun hc3 => ?_)
  · skip
    exact W.vret hx hb hr (fun t9 ht hW => ⟨hh, rfl, ⟨hkp, _, f_aPl⟩, by rw [ht]; exact hH, by rw [ht]; exact hz⟩) hLo d_Mo_low_32
  · skip
    have hk1 : k9 < K9 := (nI_ltI (by omega) (by omega)).mp (Int32.not_le.mp hc3)
    refine lv_aload_n hx hb d_Mo_low_9 rfl (lv_at hl 1 rfl) ?_
    refine hm_get (ci := 9) (v := .ref aPl) (C := R_Mo) (T := F_Mo) (N := 41) hx hb hts ig_Mo hown hK hH f_m rfl 21 (by decide) (hts _ mw_410) (fun _ h9 => h9) rfl d_Mo_low_10 ?_
    refine lv_iload_n hx hb d_Mo_low_13 rfl (lv_at hl 2 rfl) ?_
    refine lv_iload hx hb d_Mo_low_14 (lv_at hl 0 rfl) ?_
    refine lv_iadd hx hb d_Mo_low_16 ?_
    refine lv_iload_n hx hb d_Mo_low_17 rfl (lv_at hl 4 rfl) ?_
    refine lv_bipush (v := 8) hx hb d_Mo_low_18 (by decide) ?_
    refine lv_iload hx hb d_Mo_low_20 (lv_at hl 0 rfl) ?_
    refine lv_imul hx hb d_Mo_low_22 ?_
    refine lv_ishr hx hb d_Mo_low_23 ?_
    refine lv_i2b (v := (v9 >>> ((8 * (nI k9)) &&& 31)).toInt8.toInt32) hx hb d_Mo_low_24 rfl ?_
    refine hj_bast hx hb hK hH hLo 0 f_aPl rfl (P9 + k9) (nI_add _ _) (by omega) (by decide) d_Mo_low_25 (fun H4 locs hH z5 hLo => ?_)
    have hz : s.heap.size ≤ H4.size := by rw [z5]; exact hz
    obtain ⟨h6, e7⟩ : ∃ z, z = hu hh aPl (.inl ((t 0), 163840, .inl (upd g9 (P9 + k9) (vp_nar .byte ((v9 >>> ((8 * (nI k9)) &&& 31)).toInt8.toInt32))))) := ⟨_, rfl⟩
    have hH : hm D vwCl G h6 H4 := by rw [e7]; exact hH
    have f_m : h6 mo = some (.inr (9, [.int 0, .int (nI n), .int 0, .ref aBy, .ref aSt, .ref aDe, .int 0, .int (-1), .int wt, .ref aPa, .int 1, .ref aIt, .ref aId, .ref aPr, .ref aNa, .ref aSi, .ref aSe, .ref aIw, .ref aEx, .ref aOl, .int 0, .ref aPl, .int dr, .int 0, .ref aTa, .ref aAt, .ref aLo, .int 0, .int 0, .ref aS1, .ref aS2, .ref aS3, .ref aS4, .ref aS5, .ref aS6, .int 0, .ref aO1, .ref aO2, .ref aO3, .ref aO4, .ref aO5])) := by rw [e7, hu_n (Ne.symm (h_neA f_aPl f_m))]; exact f_m
    have f_aPl : h6 aPl = some (.inl ((t 0), 163840, .inl (upd g9 (P9 + k9) (vp_nar .byte ((v9 >>> ((8 * (nI k9)) &&& 31)).toInt8.toInt32))))) := by rw [e7]; exact hu_s _ _ _
    have hkp : kp [aPl] h h6 := by rw [e7]; exact kp_put hkp (by simp)
    refine lv_iinc (v := nI (k9 + 1)) (lv' := [(4, .int (nI (k9 + 1))), (0, .ref mo), (1, .int (nI P9)), (2, .int (nI K9)), (3, .int v9)]) hx hb d_Mo_low_26 hl (k := 0) rfl (nI_1 k9) (by decide) rfl (fun ls hl => ?_)
    refine lv_goto (tgt := 3) hx hb d_Mo_low_29 (by decide) ?_
    exact ih (K9 - (k9 + 1)) ls _ locs _ (by rw [hk]; omega) ⟨(k9 + 1), _, rfl, (lv_sub hl [0, 1, 2, 3, 4] rfl), hH, hz, hLo, hkp, f_m, f_aPl, by omega⟩

set_option maxHeartbeats 4000000 in
set_option maxRecDepth 100000 in
theorem c_m_high (l : Launch) (D : va_G) (t : Nat → ClassId) (G : hG) (ak av : Nat → Nat) (h : hM) (mo n aBy aSt aDe aPa aIt aId aPr aNa aSi aSe aIw aEx aOl aPl aTa aAt aLo aS1 aS2 aS3 aS4 aS5 aS6 aO1 aO2 aO3 aO4 aO5 : Nat) (dr wt : Int32) (gPl : Nat → Int32) (P9 K9 : Nat) (p9 k0 v9 : Int32) (f_m : h mo = some (.inr (9, [.int 0, .int (nI n), .int 0, .ref aBy, .ref aSt, .ref aDe, .int 0, .int (-1), .int wt, .ref aPa, .int 1, .ref aIt, .ref aId, .ref aPr, .ref aNa, .ref aSi, .ref aSe, .ref aIw, .ref aEx, .ref aOl, .int 0, .ref aPl, .int dr, .int 0, .ref aTa, .ref aAt, .ref aLo, .int 0, .int 0, .ref aS1, .ref aS2, .ref aS3, .ref aS4, .ref aS5, .ref aS6, .int 0, .ref aO1, .ref aO2, .ref aO3, .ref aO4, .ref aO5]))) (f_aPl : h aPl = some (.inl ((t 0), 163840, .inl gPl))) (hp9 : p9 = nI P9) (hk0 : k0 = nI K9) (hle : P9 + K9 ≤ 163840) : Met l y_Mo_high (.code y_Mo_high b_Mo_high 5 none :: lw_g) { frames := 0, cells := 0, slots := 0, locals := 0 } (hP (kE D t G ak av) D vwCl G h [.ref mo, .int p9, .int k0, .int v9]) (hQv D vwCl G (fun h' => kp [aPl] h h' ∧ ∃ g : Nat → Int32, h' aPl = some (.inl ((t 0), 163840, .inl g)))) 0 0 G.P := by
  refine Met.ofW (cc := b_Mo_high) (maxL := 5) (ret := none) (by decide) rfl ?_
  intro p e s m args below meth c s₁ Bd hml hv
  obtain ⟨ha, hE, hH⟩ := hv
  have hx := Bd.exec
  have hb := Bd.bytes
  have hr := Bd.returns
  have hts : ∀ w ∈ lw_g, w.before args s = true := fun w hw => atoms_spec (ws := (.code y_Mo_high b_Mo_high 5 none :: lw_g)) Bd.pre w (List.mem_cons_of_mem _ hw)
  have hown : s.vm.findClass R_Mo = some m.cls := findClass_of_methodNamed Bd.named
  have hlocks := Bd.notSynchronized
  have hK := hE.1
  have hH0 := hH
  have hLo : hLc G.P [] := hLc_nil
  have hz : s.heap.size ≤ s.heap.size := Nat.le_refl _
  have hkp : kp [aPl] h h := kp_rf
  have hl := lv_entry [.ref mo, .int p9, .int k0, .int v9] (n := 5) (Nat.le_of_ble_eq_true rfl)
  rw [show entryFrame m args 5 = F0 m 0 ((lg_sl [.ref mo, .int p9, .int k0, .int v9] ++ List.replicate (5 - (lg_sl [.ref mo, .int p9, .int k0, .int v9]).length) Slot.unset).toArray) [] from (by rw [ha]; exact lg_entry_eq m [.ref mo, .int p9, .int k0, .int v9] 5)]
  generalize (lg_sl [.ref mo, .int p9, .int k0, .int v9] ++ List.replicate (5 - (lg_sl [.ref mo, .int p9, .int k0, .int v9]).length) Slot.unset).toArray = ls at hl ⊢
  have hl : lv_has ls 5 [(0, .ref mo), (1, .int p9), (2, .int k0), (3, .int v9)] := hl
  subst hp9
  subst hk0
  refine lv_iconst (v := 0) hx hb d_Mo_high_0 (by decide) ?_
  refine lv_topi (fun v1 e2 => ?_)
  obtain rfl : v1 = nI 0 := e2.trans (by decide)
  refine lv_istore (lv' := [(4, .int (nI 0)), (0, .ref mo), (1, .int (nI P9)), (2, .int (nI K9)), (3, .int v9)]) hx hb d_Mo_high_1 hl (by decide) rfl (fun ls hl => ?_)
  refine hm_loop (fun k ls H locs hh => ∃ (k9 : Nat) (g9 : Nat → Int32), k = K9 - k9 ∧ lv_has ls 5 [(4, .int (nI k9)), (0, .ref mo), (1, .int (nI P9)), (2, .int (nI K9)), (3, .int v9)] ∧ hm D vwCl G hh H ∧ s.heap.size ≤ H.size ∧ hLc G.P locs ∧ kp [aPl] h hh ∧ hh mo = some (.inr (9, [.int 0, .int (nI n), .int 0, .ref aBy, .ref aSt, .ref aDe, .int 0, .int (-1), .int wt, .ref aPa, .int 1, .ref aIt, .ref aId, .ref aPr, .ref aNa, .ref aSi, .ref aSe, .ref aIw, .ref aEx, .ref aOl, .int 0, .ref aPl, .int dr, .int 0, .ref aTa, .ref aAt, .ref aLo, .int 0, .int 0, .ref aS1, .ref aS2, .ref aS3, .ref aS4, .ref aS5, .ref aS6, .int 0, .ref aO1, .ref aO2, .ref aO3, .ref aO4, .ref aO5])) ∧ hh aPl = some (.inl ((t 0), 163840, .inl g9)) ∧ (k9 ≤ K9)) ?_ (hh := h) ⟨0, gPl, rfl, (lv_sub hl [0, 1, 2, 3, 4] rfl), hH, hz, hLo, hkp, f_m, f_aPl, by omega⟩
  rintro k ls H locs hh ⟨k9, g9, hk, hl, hH, hz, hLo, hkp, f_m, f_aPl, hk9⟩ ih
  refine lv_iload hx hb d_Mo_high_3 (lv_at hl 0 rfl) ?_
  refine lv_iload_n hx hb d_Mo_high_5 rfl (lv_at hl 3 rfl) ?_
  refine lv_icmp_ge (tgt := 36) hx hb d_Mo_high_6 (by decide) (fun hc3 => ?_) (fun hc3 => ?_)
  · skip
    exact W.vret hx hb hr (fun t9 ht hW => ⟨hh, rfl, ⟨hkp, _, f_aPl⟩, by rw [ht]; exact hH, by rw [ht]; exact hz⟩) hLo d_Mo_high_36
  · skip
    have hk1 : k9 < K9 := (nI_ltI (by omega) (by omega)).mp (Int32.not_le.mp hc3)
    refine lv_aload_n hx hb d_Mo_high_9 rfl (lv_at hl 1 rfl) ?_
    refine hm_get (ci := 9) (v := .ref aPl) (C := R_Mo) (T := F_Mo) (N := 41) hx hb hts ig_Mo hown hK hH f_m rfl 21 (by decide) (hts _ mw_410) (fun _ h9 => h9) rfl d_Mo_high_10 ?_
    refine lv_iload_n hx hb d_Mo_high_13 rfl (lv_at hl 2 rfl) ?_
    refine lv_iload hx hb d_Mo_high_14 (lv_at hl 0 rfl) ?_
    refine lv_iadd hx hb d_Mo_high_16 ?_
    refine lv_iload_n hx hb d_Mo_high_17 rfl (lv_at hl 4 rfl) ?_
    refine lv_bipush (v := 8) hx hb d_Mo_high_18 (by decide) ?_
    refine lv_iload_n hx hb d_Mo_high_20 rfl (lv_at hl 3 rfl) ?_
    refine lv_iconst (v := 1) hx hb d_Mo_high_21 (by decide) ?_
    refine lv_isub hx hb d_Mo_high_22 ?_
    refine lv_iload hx hb d_Mo_high_23 (lv_at hl 0 rfl) ?_
    refine lv_isub hx hb d_Mo_high_25 ?_
    refine lv_imul hx hb d_Mo_high_26 ?_
    refine lv_ishr hx hb d_Mo_high_27 ?_
    refine lv_i2b (v := (v9 >>> ((8 * (((nI K9) - 1) - (nI k9))) &&& 31)).toInt8.toInt32) hx hb d_Mo_high_28 rfl ?_
    refine hj_bast hx hb hK hH hLo 0 f_aPl rfl (P9 + k9) (nI_add _ _) (by omega) (by decide) d_Mo_high_29 (fun H4 locs hH z5 hLo => ?_)
    have hz : s.heap.size ≤ H4.size := by rw [z5]; exact hz
    obtain ⟨h6, e7⟩ : ∃ z, z = hu hh aPl (.inl ((t 0), 163840, .inl (upd g9 (P9 + k9) (vp_nar .byte ((v9 >>> ((8 * (((nI K9) - 1) - (nI k9))) &&& 31)).toInt8.toInt32))))) := ⟨_, rfl⟩
    have hH : hm D vwCl G h6 H4 := by rw [e7]; exact hH
    have f_m : h6 mo = some (.inr (9, [.int 0, .int (nI n), .int 0, .ref aBy, .ref aSt, .ref aDe, .int 0, .int (-1), .int wt, .ref aPa, .int 1, .ref aIt, .ref aId, .ref aPr, .ref aNa, .ref aSi, .ref aSe, .ref aIw, .ref aEx, .ref aOl, .int 0, .ref aPl, .int dr, .int 0, .ref aTa, .ref aAt, .ref aLo, .int 0, .int 0, .ref aS1, .ref aS2, .ref aS3, .ref aS4, .ref aS5, .ref aS6, .int 0, .ref aO1, .ref aO2, .ref aO3, .ref aO4, .ref aO5])) := by rw [e7, hu_n (Ne.symm (h_neA f_aPl f_m))]; exact f_m
    have f_aPl : h6 aPl = some (.inl ((t 0), 163840, .inl (upd g9 (P9 + k9) (vp_nar .byte ((v9 >>> ((8 * (((nI K9) - 1) - (nI k9))) &&& 31)).toInt8.toInt32))))) := by rw [e7]; exact hu_s _ _ _
    have hkp : kp [aPl] h h6 := by rw [e7]; exact kp_put hkp (by simp)
    refine lv_iinc (v := nI (k9 + 1)) (lv' := [(4, .int (nI (k9 + 1))), (0, .ref mo), (1, .int (nI P9)), (2, .int (nI K9)), (3, .int v9)]) hx hb d_Mo_high_30 hl (k := 0) rfl (nI_1 k9) (by decide) rfl (fun ls hl => ?_)
    refine lv_goto (tgt := 3) hx hb d_Mo_high_33 (by decide) ?_
    exact ih (K9 - (k9 + 1)) ls _ locs _ (by rw [hk]; omega) ⟨(k9 + 1), _, rfl, (lv_sub hl [0, 1, 2, 3, 4] rfl), hH, hz, hLo, hkp, f_m, f_aPl, by omega⟩

set_option maxHeartbeats 4000000 in
set_option maxRecDepth 100000 in
theorem c_m_both (l : Launch) (D : va_G) (t : Nat → ClassId) (G : hG) (ak av : Nat → Nat) (h : hM) (mo n aBy aSt aDe aPa aIt aId aPr aNa aSi aSe aIw aEx aOl aPl aTa aAt aLo aS1 aS2 aS3 aS4 aS5 aS6 aO1 aO2 aO3 aO4 aO5 : Nat) (dr wt : Int32) (gPl : Nat → Int32) (P9 K9 : Nat) (p9 k0 v9 : Int32) (f_m : h mo = some (.inr (9, [.int 0, .int (nI n), .int 0, .ref aBy, .ref aSt, .ref aDe, .int 0, .int (-1), .int wt, .ref aPa, .int 1, .ref aIt, .ref aId, .ref aPr, .ref aNa, .ref aSi, .ref aSe, .ref aIw, .ref aEx, .ref aOl, .int 0, .ref aPl, .int dr, .int 0, .ref aTa, .ref aAt, .ref aLo, .int 0, .int 0, .ref aS1, .ref aS2, .ref aS3, .ref aS4, .ref aS5, .ref aS6, .int 0, .ref aO1, .ref aO2, .ref aO3, .ref aO4, .ref aO5]))) (f_aPl : h aPl = some (.inl ((t 0), 163840, .inl gPl))) (hp9 : p9 = nI P9) (hk0 : k0 = nI K9) (hle : P9 + (K9 + K9) ≤ 163840) : Met l y_Mo_both (.code y_Mo_both b_Mo_both 4 none :: lw_g) { frames := 1, cells := 0, slots := 0, locals := 24 } (hP (kE D t G ak av) D vwCl G h [.ref mo, .int p9, .int k0, .int v9]) (hQv D vwCl G (fun h' => kp [aPl] h h' ∧ ∃ g : Nat → Int32, h' aPl = some (.inl ((t 0), 163840, .inl g)))) 0 0 G.P := by
  refine Met.ofW (cc := b_Mo_both) (maxL := 4) (ret := none) (by decide) rfl ?_
  intro p e s m args below meth c s₁ Bd hml hv
  obtain ⟨ha, hE, hH⟩ := hv
  have hx := Bd.exec
  have hb := Bd.bytes
  have hr := Bd.returns
  have hts : ∀ w ∈ lw_g, w.before args s = true := fun w hw => atoms_spec (ws := (.code y_Mo_both b_Mo_both 4 none :: lw_g)) Bd.pre w (List.mem_cons_of_mem _ hw)
  have hown : s.vm.findClass R_Mo = some m.cls := findClass_of_methodNamed Bd.named
  have hlocks := Bd.notSynchronized
  have hK := hE.1
  have hH0 := hH
  have hLo : hLc G.P [] := hLc_nil
  have hz : s.heap.size ≤ s.heap.size := Nat.le_refl _
  have hkp : kp [aPl] h h := kp_rf
  have hl := lv_entry [.ref mo, .int p9, .int k0, .int v9] (n := 4) (Nat.le_of_ble_eq_true rfl)
  rw [show entryFrame m args 4 = F0 m 0 ((lg_sl [.ref mo, .int p9, .int k0, .int v9] ++ List.replicate (4 - (lg_sl [.ref mo, .int p9, .int k0, .int v9]).length) Slot.unset).toArray) [] from (by rw [ha]; exact lg_entry_eq m [.ref mo, .int p9, .int k0, .int v9] 4)]
  generalize (lg_sl [.ref mo, .int p9, .int k0, .int v9] ++ List.replicate (4 - (lg_sl [.ref mo, .int p9, .int k0, .int v9]).length) Slot.unset).toArray = ls at hl ⊢
  have hl : lv_has ls 4 [(0, .ref mo), (1, .int p9), (2, .int k0), (3, .int v9)] := hl
  refine lv_aload_n hx hb d_Mo_both_0 rfl (lv_at hl 0 rfl) ?_
  refine lv_iload_n hx hb d_Mo_both_1 rfl (lv_at hl 1 rfl) ?_
  refine lv_iload_n hx hb d_Mo_both_2 rfl (lv_at hl 2 rfl) ?_
  refine lv_iload_n hx hb d_Mo_both_3 rfl (lv_at hl 3 rfl) ?_
  refine hm_callv (va_runV (As := [.int p9, .int k0, .int v9]) (b := mo) (rest := []) ⟨hx, hb, hml, hown, hts⟩ (c_m_low l D t G ak av h mo n aBy aSt aDe aPa aIt aId aPr aNa aSi aSe aIw aEx aOl aPl aTa aAt aLo aS1 aS2 aS3 aS4 aS5 aS6 aO1 aO2 aO3 aO4 aO5 dr wt gPl P9 K9 p9 k0 v9 f_m f_aPl hp9 hk0 (by omega)) ⟨cw9B 3 hts mw_488 mw_489 mw_428 rfl rfl (by decide +kernel) ⟨Nat.le_of_ble_eq_true rfl, Nat.le_of_ble_eq_true rfl⟩, hts _ mw_490, hts _ mw_491⟩ (hP_V (q := (R_Mo, F_Mo, 41)) kE_ok hE hK hH f_m rfl) rfl rfl hl.1 rfl (lv_room (Nat.le_of_ble_eq_true rfl)) d_Mo_both_4 ⟨Nat.le_of_ble_eq_true rfl, Nat.le_of_ble_eq_true rfl⟩) hLo (fun h1 H2 locs hp4 hH z3 hLo => ?_)
  have hz : s.heap.size ≤ H2.size := Nat.le_trans hz z3
  obtain ⟨hk9, g5, hg9⟩ := hp4
  have f_m : h1 mo = some (.inr (9, [.int 0, .int (nI n), .int 0, .ref aBy, .ref aSt, .ref aDe, .int 0, .int (-1), .int wt, .ref aPa, .int 1, .ref aIt, .ref aId, .ref aPr, .ref aNa, .ref aSi, .ref aSe, .ref aIw, .ref aEx, .ref aOl, .int 0, .ref aPl, .int dr, .int 0, .ref aTa, .ref aAt, .ref aLo, .int 0, .int 0, .ref aS1, .ref aS2, .ref aS3, .ref aS4, .ref aS5, .ref aS6, .int 0, .ref aO1, .ref aO2, .ref aO3, .ref aO4, .ref aO5])) := kp_at hk9 f_m (nmc (Ne.symm (h_neA f_aPl f_m)) nm0)
  have hkp : kp [aPl] h h1 := kp_tr2 hkp hk9 (List.forall_mem_cons.mpr ⟨Or.inl (by simp), List.forall_mem_nil _⟩)
  have f_aPl : h1 aPl = some (.inl ((t 0), 163840, .inl g5)) := hg9
  refine lv_aload_n hx hb d_Mo_both_7 rfl (lv_at hl 0 rfl) ?_
  refine lv_iload_n hx hb d_Mo_both_8 rfl (lv_at hl 1 rfl) ?_
  refine lv_iload_n hx hb d_Mo_both_9 rfl (lv_at hl 2 rfl) ?_
  refine lv_iadd hx hb d_Mo_both_10 ?_
  refine lv_iload_n hx hb d_Mo_both_11 rfl (lv_at hl 2 rfl) ?_
  refine lv_iload_n hx hb d_Mo_both_12 rfl (lv_at hl 3 rfl) ?_
  refine hm_callv (va_runV (As := [.int (p9 + k0), .int k0, .int v9]) (b := mo) (rest := []) ⟨hx, hb, hml, hown, hts⟩ (c_m_high l D t G ak av h1 mo n aBy aSt aDe aPa aIt aId aPr aNa aSi aSe aIw aEx aOl aPl aTa aAt aLo aS1 aS2 aS3 aS4 aS5 aS6 aO1 aO2 aO3 aO4 aO5 dr wt g5 (P9 + K9) K9 (p9 + k0) k0 v9 f_m f_aPl (by rw [hp9, hk0, nI_add]) hk0 (by omega)) ⟨cw9B 3 hts mw_492 mw_493 mw_428 rfl rfl (by decide +kernel) ⟨Nat.le_of_ble_eq_true rfl, Nat.le_of_ble_eq_true rfl⟩, hts _ mw_494, hts _ mw_495⟩ (hP_V (q := (R_Mo, F_Mo, 41)) kE_ok hE hK hH f_m rfl) rfl rfl hl.1 rfl (lv_room (Nat.le_of_ble_eq_true rfl)) d_Mo_both_13 ⟨Nat.le_of_ble_eq_true rfl, Nat.le_of_ble_eq_true rfl⟩) hLo (fun h6 H7 locs hp9 hH z8 hLo => ?_)
  have hz : s.heap.size ≤ H7.size := Nat.le_trans hz z8
  obtain ⟨hk9, g10, hg9⟩ := hp9
  have f_m : h6 mo = some (.inr (9, [.int 0, .int (nI n), .int 0, .ref aBy, .ref aSt, .ref aDe, .int 0, .int (-1), .int wt, .ref aPa, .int 1, .ref aIt, .ref aId, .ref aPr, .ref aNa, .ref aSi, .ref aSe, .ref aIw, .ref aEx, .ref aOl, .int 0, .ref aPl, .int dr, .int 0, .ref aTa, .ref aAt, .ref aLo, .int 0, .int 0, .ref aS1, .ref aS2, .ref aS3, .ref aS4, .ref aS5, .ref aS6, .int 0, .ref aO1, .ref aO2, .ref aO3, .ref aO4, .ref aO5])) := kp_at hk9 f_m (nmc (Ne.symm (h_neA f_aPl f_m)) nm0)
  have hkp : kp [aPl] h h6 := kp_tr2 hkp hk9 (List.forall_mem_cons.mpr ⟨Or.inl (by simp), List.forall_mem_nil _⟩)
  have f_aPl : h6 aPl = some (.inl ((t 0), 163840, .inl g10)) := hg9
  exact W.vret hx hb hr (fun t9 ht hW => ⟨h6, rfl, ⟨hkp, _, f_aPl⟩, by rw [ht]; exact hH, by rw [ht]; exact hz⟩) hLo d_Mo_both_16

set_option maxHeartbeats 4000000 in
set_option maxRecDepth 100000 in
theorem c_m_letters (l : Launch) (D : va_G) (t : Nat → ClassId) (G : hG) (ak av : Nat → Nat) (h : hM) (mo n aBy aSt aDe aPa aIt aId aPr aNa aSi aSe aIw aEx aOl aPl aTa aAt aLo aS1 aS2 aS3 aS4 aS5 aS6 aO1 aO2 aO3 aO4 aO5 : Nat) (dr wt : Int32) (gPl : Nat → Int32) (P9 : Nat) (p9 c1 c2 c3 c4 c5 : Int32) (f_m : h mo = some (.inr (9, [.int 0, .int (nI n), .int 0, .ref aBy, .ref aSt, .ref aDe, .int 0, .int (-1), .int wt, .ref aPa, .int 1, .ref aIt, .ref aId, .ref aPr, .ref aNa, .ref aSi, .ref aSe, .ref aIw, .ref aEx, .ref aOl, .int 0, .ref aPl, .int dr, .int 0, .ref aTa, .ref aAt, .ref aLo, .int 0, .int 0, .ref aS1, .ref aS2, .ref aS3, .ref aS4, .ref aS5, .ref aS6, .int 0, .ref aO1, .ref aO2, .ref aO3, .ref aO4, .ref aO5]))) (f_aPl : h aPl = some (.inl ((t 0), 163840, .inl gPl))) (hp9 : p9 = nI P9) (hle : P9 + 5 ≤ 163840) : Met l y_Mo_letters (.code y_Mo_letters b_Mo_letters 7 none :: lw_g) { frames := 0, cells := 0, slots := 0, locals := 0 } (hP (kE D t G ak av) D vwCl G h [.ref mo, .int p9, .int c1, .int c2, .int c3, .int c4, .int c5]) (hQv D vwCl G (fun h' => kp [aPl] h h' ∧ ∃ g : Nat → Int32, h' aPl = some (.inl ((t 0), 163840, .inl g)))) 0 0 G.P := by
  refine Met.ofW (cc := b_Mo_letters) (maxL := 7) (ret := none) (by decide) rfl ?_
  intro p e s m args below meth c s₁ Bd hml hv
  obtain ⟨ha, hE, hH⟩ := hv
  have hx := Bd.exec
  have hb := Bd.bytes
  have hr := Bd.returns
  have hts : ∀ w ∈ lw_g, w.before args s = true := fun w hw => atoms_spec (ws := (.code y_Mo_letters b_Mo_letters 7 none :: lw_g)) Bd.pre w (List.mem_cons_of_mem _ hw)
  have hown : s.vm.findClass R_Mo = some m.cls := findClass_of_methodNamed Bd.named
  have hlocks := Bd.notSynchronized
  have hK := hE.1
  have hH0 := hH
  have hLo : hLc G.P [] := hLc_nil
  have hz : s.heap.size ≤ s.heap.size := Nat.le_refl _
  have hkp : kp [aPl] h h := kp_rf
  have hl := lv_entry [.ref mo, .int p9, .int c1, .int c2, .int c3, .int c4, .int c5] (n := 7) (Nat.le_of_ble_eq_true rfl)
  rw [show entryFrame m args 7 = F0 m 0 ((lg_sl [.ref mo, .int p9, .int c1, .int c2, .int c3, .int c4, .int c5] ++ List.replicate (7 - (lg_sl [.ref mo, .int p9, .int c1, .int c2, .int c3, .int c4, .int c5]).length) Slot.unset).toArray) [] from (by rw [ha]; exact lg_entry_eq m [.ref mo, .int p9, .int c1, .int c2, .int c3, .int c4, .int c5] 7)]
  generalize (lg_sl [.ref mo, .int p9, .int c1, .int c2, .int c3, .int c4, .int c5] ++ List.replicate (7 - (lg_sl [.ref mo, .int p9, .int c1, .int c2, .int c3, .int c4, .int c5]).length) Slot.unset).toArray = ls at hl ⊢
  have hl : lv_has ls 7 [(0, .ref mo), (1, .int p9), (2, .int c1), (3, .int c2), (4, .int c3), (5, .int c4), (6, .int c5)] := hl
  subst hp9
  refine lv_aload_n hx hb d_Mo_letters_0 rfl (lv_at hl 0 rfl) ?_
  refine hm_get (ci := 9) (v := .ref aPl) (C := R_Mo) (T := F_Mo) (N := 41) hx hb hts ig_Mo hown hK hH f_m rfl 21 (by decide) (hts _ mw_410) (fun _ h9 => h9) rfl d_Mo_letters_1 ?_
  refine lv_iload_n hx hb d_Mo_letters_4 rfl (lv_at hl 1 rfl) ?_
  refine lv_iload_n hx hb d_Mo_letters_5 rfl (lv_at hl 2 rfl) ?_
  refine lv_i2b (v := c1.toInt8.toInt32) hx hb d_Mo_letters_6 rfl ?_
  refine hj_bast hx hb hK hH hLo 0 f_aPl rfl P9 rfl (by omega) (by decide) d_Mo_letters_7 (fun H1 locs hH z2 hLo => ?_)
  have hz : s.heap.size ≤ H1.size := by rw [z2]; exact hz
  obtain ⟨h3, e4⟩ : ∃ z, z = hu h aPl (.inl ((t 0), 163840, .inl (upd gPl P9 (vp_nar .byte c1.toInt8.toInt32)))) := ⟨_, rfl⟩
  have hH : hm D vwCl G h3 H1 := by rw [e4]; exact hH
  have f_m : h3 mo = some (.inr (9, [.int 0, .int (nI n), .int 0, .ref aBy, .ref aSt, .ref aDe, .int 0, .int (-1), .int wt, .ref aPa, .int 1, .ref aIt, .ref aId, .ref aPr, .ref aNa, .ref aSi, .ref aSe, .ref aIw, .ref aEx, .ref aOl, .int 0, .ref aPl, .int dr, .int 0, .ref aTa, .ref aAt, .ref aLo, .int 0, .int 0, .ref aS1, .ref aS2, .ref aS3, .ref aS4, .ref aS5, .ref aS6, .int 0, .ref aO1, .ref aO2, .ref aO3, .ref aO4, .ref aO5])) := by rw [e4, hu_n (Ne.symm (h_neA f_aPl f_m))]; exact f_m
  have f_aPl : h3 aPl = some (.inl ((t 0), 163840, .inl (upd gPl P9 (vp_nar .byte c1.toInt8.toInt32)))) := by rw [e4]; exact hu_s _ _ _
  have hkp : kp [aPl] h h3 := by rw [e4]; exact kp_put hkp (by simp)
  refine lv_aload_n hx hb d_Mo_letters_8 rfl (lv_at hl 0 rfl) ?_
  refine hm_get (ci := 9) (v := .ref aPl) (C := R_Mo) (T := F_Mo) (N := 41) hx hb hts ig_Mo hown hK hH f_m rfl 21 (by decide) (hts _ mw_410) (fun _ h9 => h9) rfl d_Mo_letters_9 ?_
  refine lv_iload_n hx hb d_Mo_letters_12 rfl (lv_at hl 1 rfl) ?_
  refine lv_iconst (v := 1) hx hb d_Mo_letters_13 (by decide) ?_
  refine lv_iadd hx hb d_Mo_letters_14 ?_
  refine lv_iload_n hx hb d_Mo_letters_15 rfl (lv_at hl 3 rfl) ?_
  refine lv_i2b (v := c2.toInt8.toInt32) hx hb d_Mo_letters_16 rfl ?_
  refine hj_bast hx hb hK hH hLo 0 f_aPl rfl (P9 + 1) (nI_add _ _) (by omega) (by decide) d_Mo_letters_17 (fun H5 locs hH z6 hLo => ?_)
  have hz : s.heap.size ≤ H5.size := by rw [z6]; exact hz
  obtain ⟨h7, e8⟩ : ∃ z, z = hu h3 aPl (.inl ((t 0), 163840, .inl (upd (upd gPl P9 (vp_nar .byte c1.toInt8.toInt32)) (P9 + 1) (vp_nar .byte c2.toInt8.toInt32)))) := ⟨_, rfl⟩
  have hH : hm D vwCl G h7 H5 := by rw [e8]; exact hH
  have f_m : h7 mo = some (.inr (9, [.int 0, .int (nI n), .int 0, .ref aBy, .ref aSt, .ref aDe, .int 0, .int (-1), .int wt, .ref aPa, .int 1, .ref aIt, .ref aId, .ref aPr, .ref aNa, .ref aSi, .ref aSe, .ref aIw, .ref aEx, .ref aOl, .int 0, .ref aPl, .int dr, .int 0, .ref aTa, .ref aAt, .ref aLo, .int 0, .int 0, .ref aS1, .ref aS2, .ref aS3, .ref aS4, .ref aS5, .ref aS6, .int 0, .ref aO1, .ref aO2, .ref aO3, .ref aO4, .ref aO5])) := by rw [e8, hu_n (Ne.symm (h_neA f_aPl f_m))]; exact f_m
  have f_aPl : h7 aPl = some (.inl ((t 0), 163840, .inl (upd (upd gPl P9 (vp_nar .byte c1.toInt8.toInt32)) (P9 + 1) (vp_nar .byte c2.toInt8.toInt32)))) := by rw [e8]; exact hu_s _ _ _
  have hkp : kp [aPl] h h7 := by rw [e8]; exact kp_put hkp (by simp)
  refine lv_aload_n hx hb d_Mo_letters_18 rfl (lv_at hl 0 rfl) ?_
  refine hm_get (ci := 9) (v := .ref aPl) (C := R_Mo) (T := F_Mo) (N := 41) hx hb hts ig_Mo hown hK hH f_m rfl 21 (by decide) (hts _ mw_410) (fun _ h9 => h9) rfl d_Mo_letters_19 ?_
  refine lv_iload_n hx hb d_Mo_letters_22 rfl (lv_at hl 1 rfl) ?_
  refine lv_iconst (v := 2) hx hb d_Mo_letters_23 (by decide) ?_
  refine lv_iadd hx hb d_Mo_letters_24 ?_
  refine lv_iload hx hb d_Mo_letters_25 (lv_at hl 4 rfl) ?_
  refine lv_i2b (v := c3.toInt8.toInt32) hx hb d_Mo_letters_27 rfl ?_
  refine hj_bast hx hb hK hH hLo 0 f_aPl rfl (P9 + 2) (nI_add _ _) (by omega) (by decide) d_Mo_letters_28 (fun H9 locs hH z10 hLo => ?_)
  have hz : s.heap.size ≤ H9.size := by rw [z10]; exact hz
  obtain ⟨h11, e12⟩ : ∃ z, z = hu h7 aPl (.inl ((t 0), 163840, .inl (upd (upd (upd gPl P9 (vp_nar .byte c1.toInt8.toInt32)) (P9 + 1) (vp_nar .byte c2.toInt8.toInt32)) (P9 + 2) (vp_nar .byte c3.toInt8.toInt32)))) := ⟨_, rfl⟩
  have hH : hm D vwCl G h11 H9 := by rw [e12]; exact hH
  have f_m : h11 mo = some (.inr (9, [.int 0, .int (nI n), .int 0, .ref aBy, .ref aSt, .ref aDe, .int 0, .int (-1), .int wt, .ref aPa, .int 1, .ref aIt, .ref aId, .ref aPr, .ref aNa, .ref aSi, .ref aSe, .ref aIw, .ref aEx, .ref aOl, .int 0, .ref aPl, .int dr, .int 0, .ref aTa, .ref aAt, .ref aLo, .int 0, .int 0, .ref aS1, .ref aS2, .ref aS3, .ref aS4, .ref aS5, .ref aS6, .int 0, .ref aO1, .ref aO2, .ref aO3, .ref aO4, .ref aO5])) := by rw [e12, hu_n (Ne.symm (h_neA f_aPl f_m))]; exact f_m
  have f_aPl : h11 aPl = some (.inl ((t 0), 163840, .inl (upd (upd (upd gPl P9 (vp_nar .byte c1.toInt8.toInt32)) (P9 + 1) (vp_nar .byte c2.toInt8.toInt32)) (P9 + 2) (vp_nar .byte c3.toInt8.toInt32)))) := by rw [e12]; exact hu_s _ _ _
  have hkp : kp [aPl] h h11 := by rw [e12]; exact kp_put hkp (by simp)
  refine lv_aload_n hx hb d_Mo_letters_29 rfl (lv_at hl 0 rfl) ?_
  refine hm_get (ci := 9) (v := .ref aPl) (C := R_Mo) (T := F_Mo) (N := 41) hx hb hts ig_Mo hown hK hH f_m rfl 21 (by decide) (hts _ mw_410) (fun _ h9 => h9) rfl d_Mo_letters_30 ?_
  refine lv_iload_n hx hb d_Mo_letters_33 rfl (lv_at hl 1 rfl) ?_
  refine lv_iconst (v := 3) hx hb d_Mo_letters_34 (by decide) ?_
  refine lv_iadd hx hb d_Mo_letters_35 ?_
  refine lv_iload hx hb d_Mo_letters_36 (lv_at hl 5 rfl) ?_
  refine lv_i2b (v := c4.toInt8.toInt32) hx hb d_Mo_letters_38 rfl ?_
  refine hj_bast hx hb hK hH hLo 0 f_aPl rfl (P9 + 3) (nI_add _ _) (by omega) (by decide) d_Mo_letters_39 (fun H13 locs hH z14 hLo => ?_)
  have hz : s.heap.size ≤ H13.size := by rw [z14]; exact hz
  obtain ⟨h15, e16⟩ : ∃ z, z = hu h11 aPl (.inl ((t 0), 163840, .inl (upd (upd (upd (upd gPl P9 (vp_nar .byte c1.toInt8.toInt32)) (P9 + 1) (vp_nar .byte c2.toInt8.toInt32)) (P9 + 2) (vp_nar .byte c3.toInt8.toInt32)) (P9 + 3) (vp_nar .byte c4.toInt8.toInt32)))) := ⟨_, rfl⟩
  have hH : hm D vwCl G h15 H13 := by rw [e16]; exact hH
  have f_m : h15 mo = some (.inr (9, [.int 0, .int (nI n), .int 0, .ref aBy, .ref aSt, .ref aDe, .int 0, .int (-1), .int wt, .ref aPa, .int 1, .ref aIt, .ref aId, .ref aPr, .ref aNa, .ref aSi, .ref aSe, .ref aIw, .ref aEx, .ref aOl, .int 0, .ref aPl, .int dr, .int 0, .ref aTa, .ref aAt, .ref aLo, .int 0, .int 0, .ref aS1, .ref aS2, .ref aS3, .ref aS4, .ref aS5, .ref aS6, .int 0, .ref aO1, .ref aO2, .ref aO3, .ref aO4, .ref aO5])) := by rw [e16, hu_n (Ne.symm (h_neA f_aPl f_m))]; exact f_m
  have f_aPl : h15 aPl = some (.inl ((t 0), 163840, .inl (upd (upd (upd (upd gPl P9 (vp_nar .byte c1.toInt8.toInt32)) (P9 + 1) (vp_nar .byte c2.toInt8.toInt32)) (P9 + 2) (vp_nar .byte c3.toInt8.toInt32)) (P9 + 3) (vp_nar .byte c4.toInt8.toInt32)))) := by rw [e16]; exact hu_s _ _ _
  have hkp : kp [aPl] h h15 := by rw [e16]; exact kp_put hkp (by simp)
  refine lv_aload_n hx hb d_Mo_letters_40 rfl (lv_at hl 0 rfl) ?_
  refine hm_get (ci := 9) (v := .ref aPl) (C := R_Mo) (T := F_Mo) (N := 41) hx hb hts ig_Mo hown hK hH f_m rfl 21 (by decide) (hts _ mw_410) (fun _ h9 => h9) rfl d_Mo_letters_41 ?_
  refine lv_iload_n hx hb d_Mo_letters_44 rfl (lv_at hl 1 rfl) ?_
  refine lv_iconst (v := 4) hx hb d_Mo_letters_45 (by decide) ?_
  refine lv_iadd hx hb d_Mo_letters_46 ?_
  refine lv_iload hx hb d_Mo_letters_47 (lv_at hl 6 rfl) ?_
  refine lv_i2b (v := c5.toInt8.toInt32) hx hb d_Mo_letters_49 rfl ?_
  refine hj_bast hx hb hK hH hLo 0 f_aPl rfl (P9 + 4) (nI_add _ _) (by omega) (by decide) d_Mo_letters_50 (fun H17 locs hH z18 hLo => ?_)
  have hz : s.heap.size ≤ H17.size := by rw [z18]; exact hz
  obtain ⟨h19, e20⟩ : ∃ z, z = hu h15 aPl (.inl ((t 0), 163840, .inl (upd (upd (upd (upd (upd gPl P9 (vp_nar .byte c1.toInt8.toInt32)) (P9 + 1) (vp_nar .byte c2.toInt8.toInt32)) (P9 + 2) (vp_nar .byte c3.toInt8.toInt32)) (P9 + 3) (vp_nar .byte c4.toInt8.toInt32)) (P9 + 4) (vp_nar .byte c5.toInt8.toInt32)))) := ⟨_, rfl⟩
  have hH : hm D vwCl G h19 H17 := by rw [e20]; exact hH
  have f_m : h19 mo = some (.inr (9, [.int 0, .int (nI n), .int 0, .ref aBy, .ref aSt, .ref aDe, .int 0, .int (-1), .int wt, .ref aPa, .int 1, .ref aIt, .ref aId, .ref aPr, .ref aNa, .ref aSi, .ref aSe, .ref aIw, .ref aEx, .ref aOl, .int 0, .ref aPl, .int dr, .int 0, .ref aTa, .ref aAt, .ref aLo, .int 0, .int 0, .ref aS1, .ref aS2, .ref aS3, .ref aS4, .ref aS5, .ref aS6, .int 0, .ref aO1, .ref aO2, .ref aO3, .ref aO4, .ref aO5])) := by rw [e20, hu_n (Ne.symm (h_neA f_aPl f_m))]; exact f_m
  have f_aPl : h19 aPl = some (.inl ((t 0), 163840, .inl (upd (upd (upd (upd (upd gPl P9 (vp_nar .byte c1.toInt8.toInt32)) (P9 + 1) (vp_nar .byte c2.toInt8.toInt32)) (P9 + 2) (vp_nar .byte c3.toInt8.toInt32)) (P9 + 3) (vp_nar .byte c4.toInt8.toInt32)) (P9 + 4) (vp_nar .byte c5.toInt8.toInt32)))) := by rw [e20]; exact hu_s _ _ _
  have hkp : kp [aPl] h h19 := by rw [e20]; exact kp_put hkp (by simp)
  exact W.vret hx hb hr (fun t9 ht hW => ⟨h19, rfl, ⟨hkp, _, f_aPl⟩, by rw [ht]; exact hH, by rw [ht]; exact hz⟩) hLo d_Mo_letters_51

set_option maxHeartbeats 4000000 in
set_option maxRecDepth 100000 in
theorem c_m_even (l : Launch) (D : va_G) (t : Nat → ClassId) (G : hG) (ak av : Nat → Nat) (h : hM) (x : Int32) : Met l y_Mo_even (.code y_Mo_even b_Mo_even 1 (some .int) :: lw_g) { frames := 0, cells := 0, slots := 0, locals := 0 } (hP (kE D t G ak av) D vwCl G h [.int x]) (hQi D vwCl G (fun r h' => r = x + (x - x / 2 * 2) ∧ h = h')) 0 0 G.P := by
  refine Met.ofW (cc := b_Mo_even) (maxL := 1) (ret := (some .int)) (by decide) rfl ?_
  intro p e s m args below meth c s₁ Bd hml hv
  obtain ⟨ha, hE, hH⟩ := hv
  have hx := Bd.exec
  have hb := Bd.bytes
  have hr := Bd.returns
  have hts : ∀ w ∈ lw_g, w.before args s = true := fun w hw => atoms_spec (ws := (.code y_Mo_even b_Mo_even 1 (some .int) :: lw_g)) Bd.pre w (List.mem_cons_of_mem _ hw)
  have hown : s.vm.findClass R_Mo = some m.cls := findClass_of_methodNamed Bd.named
  have hlocks := Bd.notSynchronized
  have hK := hE.1
  have hH0 := hH
  have hLo : hLc G.P [] := hLc_nil
  have hz : s.heap.size ≤ s.heap.size := Nat.le_refl _
  have hkp : kp [] h h := kp_rf
  have hl := lv_entry [.int x] (n := 1) (Nat.le_of_ble_eq_true rfl)
  rw [show entryFrame m args 1 = F0 m 0 ((lg_sl [.int x] ++ List.replicate (1 - (lg_sl [.int x]).length) Slot.unset).toArray) [] from (by rw [ha]; exact lg_entry_eq m [.int x] 1)]
  generalize (lg_sl [.int x] ++ List.replicate (1 - (lg_sl [.int x]).length) Slot.unset).toArray = ls at hl ⊢
  have hl : lv_has ls 1 [(0, .int x)] := hl
  refine lv_iload_n hx hb d_Mo_even_0 rfl (lv_at hl 0 rfl) ?_
  refine lv_iload_n hx hb d_Mo_even_1 rfl (lv_at hl 0 rfl) ?_
  refine lv_iconst (v := 2) hx hb d_Mo_even_2 (by decide) ?_
  refine lv_irem hx hb d_Mo_even_3 (by decide) ?_
  refine lv_iadd hx hb d_Mo_even_4 ?_
  exact W.iret (v := x + (x - x / 2 * 2)) hx hb hr (fun t9 ht hW => ⟨x + (x - x / 2 * 2), h, rfl, ⟨rfl, rfl⟩, by rw [ht]; exact hH, by rw [ht]; exact hz⟩) hLo d_Mo_even_5

set_option maxHeartbeats 4000000 in
set_option maxRecDepth 100000 in
theorem c_m_recordId (l : Launch) (D : va_G) (t : Nat → ClassId) (G : hG) (ak av : Nat → Nat) (h : hM) (mo : Nat) (so kk : Int32) (hso : ¬ (2 : Int32) ≤ so) : Met l y_Mo_recordId (.code y_Mo_recordId b_Mo_recordId 3 (some .int) :: lw_g) { frames := 0, cells := 0, slots := 0, locals := 0 } (hP (kE D t G ak av) D vwCl G h [.ref mo, .int so, .int kk]) (hQi D vwCl G (fun r h' => r = 1 ∧ h = h')) 0 0 G.P := by
  refine Met.ofW (cc := b_Mo_recordId) (maxL := 3) (ret := (some .int)) (by decide) rfl ?_
  intro p e s m args below meth c s₁ Bd hml hv
  obtain ⟨ha, hE, hH⟩ := hv
  have hx := Bd.exec
  have hb := Bd.bytes
  have hr := Bd.returns
  have hts : ∀ w ∈ lw_g, w.before args s = true := fun w hw => atoms_spec (ws := (.code y_Mo_recordId b_Mo_recordId 3 (some .int) :: lw_g)) Bd.pre w (List.mem_cons_of_mem _ hw)
  have hown : s.vm.findClass R_Mo = some m.cls := findClass_of_methodNamed Bd.named
  have hlocks := Bd.notSynchronized
  have hK := hE.1
  have hH0 := hH
  have hLo : hLc G.P [] := hLc_nil
  have hz : s.heap.size ≤ s.heap.size := Nat.le_refl _
  have hkp : kp [] h h := kp_rf
  have hl := lv_entry [.ref mo, .int so, .int kk] (n := 3) (Nat.le_of_ble_eq_true rfl)
  rw [show entryFrame m args 3 = F0 m 0 ((lg_sl [.ref mo, .int so, .int kk] ++ List.replicate (3 - (lg_sl [.ref mo, .int so, .int kk]).length) Slot.unset).toArray) [] from (by rw [ha]; exact lg_entry_eq m [.ref mo, .int so, .int kk] 3)]
  generalize (lg_sl [.ref mo, .int so, .int kk] ++ List.replicate (3 - (lg_sl [.ref mo, .int so, .int kk]).length) Slot.unset).toArray = ls at hl ⊢
  have hl : lv_has ls 3 [(0, .ref mo), (1, .int so), (2, .int kk)] := hl
  refine lv_iload_n hx hb d_Mo_recordId_0 rfl (lv_at hl 1 rfl) ?_
  refine lv_iconst (v := 2) hx hb d_Mo_recordId_1 (by decide) ?_
  refine lv_icmp_ge (tgt := 9) hx hb d_Mo_recordId_2 (by decide) (fun hc1 => absurd hc1 hso) (fun hc1 => ?_)
  refine lv_iconst (v := 1) hx hb d_Mo_recordId_5 (by decide) ?_
  refine lv_goto (tgt := 24) hx hb d_Mo_recordId_6 (by decide) ?_
  exact W.iret (v := 1) hx hb hr (fun t9 ht hW => ⟨1, h, rfl, ⟨rfl, rfl⟩, by rw [ht]; exact hH, by rw [ht]; exact hz⟩) hLo d_Mo_recordId_24
