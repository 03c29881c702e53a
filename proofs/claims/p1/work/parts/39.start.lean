set_option maxRecDepth 100000 in
theorem mw_792 : Cond.classLink R_La 8 R_Di ∈ lw_g := lw_gin (List.mem_append_right _ (List.mem_of_getElem? (i := 22) rfl)) (by decide +kernel)
set_option maxRecDepth 100000 in
theorem mw_793 : Cond.code y_La_cell b_La_cell 2 (some .int) ∈ lw_g := lw_gin (List.mem_append_right _ (List.mem_of_getElem? (i := 798) rfl)) (by decide +kernel)
set_option maxRecDepth 100000 in
theorem mw_794 : Cond.methodLink R_La 28 y_La_cell ∈ lw_g := lw_gin (List.mem_append_right _ (List.mem_of_getElem? (i := 796) rfl)) (by decide +kernel)
set_option maxRecDepth 100000 in
theorem mw_795 : Cond.static y_La_cell ∈ lw_g := lw_gin (List.mem_append_right _ (List.mem_of_getElem? (i := 797) rfl)) (by decide +kernel)
set_option maxRecDepth 100000 in
theorem mw_796 : Cond.code y_Di_init b_Di_init 2 none ∈ lw_g := lw_gin (List.mem_append_right _ (List.mem_of_getElem? (i := 26) rfl)) (by decide +kernel)
set_option maxRecDepth 100000 in
theorem mw_797 : Cond.methodLink R_La 34 y_Di_init ∈ lw_g := lw_gin (List.mem_append_right _ (List.mem_of_getElem? (i := 24) rfl)) (by decide +kernel)
set_option maxRecDepth 100000 in
theorem mw_798 : Cond.instanceMethod y_Di_init ∈ lw_g := lw_gin (List.mem_append_right _ (List.mem_of_getElem? (i := 25) rfl)) (by decide +kernel)
set_option maxRecDepth 100000 in
theorem mw_799 : Cond.classLink R_La 37 R_Mo ∈ lw_g := lw_gin (List.mem_append_right _ (List.mem_of_getElem? (i := 905) rfl)) (by decide +kernel)
set_option maxRecDepth 100000 in
theorem mw_800 : Cond.code y_Mo_init b_Mo_init 2 none ∈ lw_g := lw_gin (List.mem_append_right _ (List.mem_of_getElem? (i := 909) rfl)) (by decide +kernel)
set_option maxRecDepth 100000 in
theorem mw_801 : Cond.methodLink R_La 39 y_Mo_init ∈ lw_g := lw_gin (List.mem_append_right _ (List.mem_of_getElem? (i := 907) rfl)) (by decide +kernel)
set_option maxRecDepth 100000 in
theorem mw_802 : Cond.instanceMethod y_Mo_init ∈ lw_g := lw_gin (List.mem_append_right _ (List.mem_of_getElem? (i := 908) rfl)) (by decide +kernel)
theorem d_La_law_0 : decode b_La_law 0 = .ok (.new 8, 3) := by decide +kernel
theorem d_La_law_3 : decode b_La_law 3 = .ok (.dup, 1) := by decide +kernel
theorem d_La_law_4 : decode b_La_law 4 = .ok (.aload_n 0, 1) := by decide +kernel
theorem d_La_law_5 : decode b_La_law 5 = .ok (.iconst 0, 1) := by decide +kernel
theorem d_La_law_6 : decode b_La_law 6 = .ok (.invokestatic 28, 3) := by decide +kernel
theorem d_La_law_9 : decode b_La_law 9 = .ok (.invokespecial 34, 3) := by decide +kernel
theorem d_La_law_12 : decode b_La_law 12 = .ok (.astore_n 1, 1) := by decide +kernel
theorem d_La_law_13 : decode b_La_law 13 = .ok (.new 37, 3) := by decide +kernel
theorem d_La_law_16 : decode b_La_law 16 = .ok (.dup, 1) := by decide +kernel
theorem d_La_law_17 : decode b_La_law 17 = .ok (.aload_n 0, 1) := by decide +kernel
theorem d_La_law_18 : decode b_La_law 18 = .ok (.iconst 0, 1) := by decide +kernel
theorem d_La_law_19 : decode b_La_law 19 = .ok (.invokestatic 28, 3) := by decide +kernel
theorem d_La_law_22 : decode b_La_law 22 = .ok (.invokespecial 39, 3) := by decide +kernel
theorem d_La_law_25 : decode b_La_law 25 = .ok (.astore_n 2, 1) := by decide +kernel
theorem d_La_law_26 : decode b_La_law 26 = .ok (.iconst 1, 1) := by decide +kernel
theorem d_La_law_27 : decode b_La_law 27 = .ok (.newarray .long, 2) := by decide +kernel
theorem d_La_law_29 : decode b_La_law 29 = .ok (.astore_n 3, 1) := by decide +kernel
theorem d_La_law_30 : decode b_La_law 30 = .ok (.iconst 1, 1) := by decide +kernel
theorem d_La_law_31 : decode b_La_law 31 = .ok (.istore 4, 2) := by decide +kernel
theorem d_La_law_43 : decode b_La_law 43 = .ok (.aload_n 0, 1) := by decide +kernel
theorem d_La_law_44 : decode b_La_law 44 = .ok (.iload 4, 2) := by decide +kernel
theorem d_La_law_46 : decode b_La_law 46 = .ok (.iaload, 1) := by decide +kernel
theorem d_La_law_47 : decode b_La_law 47 = .ok (.bipush 31, 2) := by decide +kernel
theorem d_La_law_49 : decode b_La_law 49 = .ok (.iand, 1) := by decide +kernel
theorem d_La_law_50 : decode b_La_law 50 = .ok (.tableswitch 950 0 19 #[94, 119, 142, 211, 304, 353, 378, 459, 472, 485, 498, 523, 548, 585, 598, 666, 691, 759, 814, 882], 94) := by decide +kernel
set_option maxHeartbeats 4000000 in
set_option maxRecDepth 100000 in
theorem whole_start {p : Program} {e : Env} {s : State} {m : MethodId} {below : List Frame} {meth : Method} {c : Code} (l : Launch) (hfl : l.flags = flags0) {b L : Nat} {xs : Nat → Int32} (hL : L ≤ 7) (C0 : lw_At p s m meth c b L xs) : W p l e room_1 s m #[Value.ref b] below meth c s.heap [] 0 0 (lw_Z below #[Value.ref b] s) (entryFrame m ([Value.ref b] : List Value).toArray 8) := by
  obtain ⟨hx, hb, hr, hml, hown, htb, hXs, hbl, hlocks, hgv⟩ := C0
  have hts : ∀ w ∈ lw_g, w.before #[Value.ref b] s = true := fun w hw => htb w (List.mem_filter.mp hw).1
  obtain ⟨D, t, ak, av, hE0⟩ := law_env htb hts hgv
  have hT0 : kT (gNew s.heap) s := env_T htb
  have hbA : ¬ P0 s b := Nat.not_le.mpr hbl
  have hl := lv_entry [.ref b] (n := 8) (Nat.le_of_ble_eq_true rfl)
  rw [show entryFrame m ([Value.ref b] : List Value).toArray 8 = F0 m 0 ((lg_sl [.ref b] ++ List.replicate (8 - (lg_sl [.ref b]).length) Slot.unset).toArray) [] from lg_entry_eq m [.ref b] 8]
  generalize (lg_sl [.ref b] ++ List.replicate (8 - (lg_sl [.ref b]).length) Slot.unset).toArray = ls at hl ⊢
  have hl : lv_has ls 8 [(0, .ref b)] := hl
  have hS : va_S (P0 s) s.heap s.heap [] := ⟨Nat.le_refl _, fun _ _ _ => rfl, fun _ h => by cases h⟩
  obtain ⟨G, hGd1⟩ : ∃ z, z = gNew s.heap := ⟨_, rfl⟩
  obtain ⟨h, hh1⟩ : ∃ z : hM, z = fun _ => none := ⟨_, rfl⟩
  have hE : kE D t G ak av s := by rw [hGd1]; exact hE0
  have hK := hE0.1
  have hH : hm D vwCl G h s.heap := by rw [hGd1, hh1]; exact hm_none
  have hLo : hLc G.P [] := hLc_nil
  have hz : s.heap.size ≤ s.heap.size := Nat.le_refl _
  have hXG : va_X b L xs s G.H ∧ b < G.H.size ∧ ¬ G.P b := by rw [hGd1]; exact ⟨hXs, hbl, hbA⟩
  refine hm_new (ci := 8) (fs := [.null, .null, .null, .null, .null, .int 0, .int 0, .null, .null]) (C := R_Di) (T := F_Di) (N := 9) hx hb hts ig_Di t_Di tk_Di hown (hts _ mw_792) (hts _ mw_629) (hts _ mw_121) hK hH rfl df_Di (Nat.le_of_ble_eq_true rfl) (Nat.le_of_ble_eq_true rfl) d_La_law_0 (fun q2 H1 hq3 hn4 hH z5 => ?_)
  have hz : s.heap.size ≤ H1.size := by rw [z5]; exact Nat.le_succ_of_le hz
  obtain ⟨h6, e7⟩ : ∃ z, z = hu h q2 (.inr (8, [.null, .null, .null, .null, .null, .int 0, .int 0, .null, .null])) := ⟨_, rfl⟩
  have hH : hm D vwCl G h6 H1 := by rw [e7]; exact hH
  have f_x : h6 q2 = some (.inr (8, [.null, .null, .null, .null, .null, .int 0, .int 0, .null, .null])) := by rw [e7]; exact hu_s _ _ _
  refine lv_dup hx hb d_La_law_3 rfl ?_
  refine lv_aload_n hx hb d_La_law_4 rfl (lv_at hl 0 rfl) ?_
  refine lv_iconst (v := 0) hx hb d_La_law_5 (by decide) ?_
  refine hm_calli (va_runS (As := [.ref b, .int 0]) (rest := [.ref q2, .ref q2]) ⟨hx, hb, hml, hown, hts⟩ (c_l_cell l D t G ak av h6 b L xs hL) ⟨cw9B 2 hts mw_793 mw_794 mw_755 rfl rfl (by decide +kernel) ⟨Nat.le_of_ble_eq_true rfl, Nat.le_of_ble_eq_true rfl⟩, hts _ mw_795⟩ (hP_S kX_ok ⟨hE, hXG⟩ hH) rfl rfl hl.1 rfl (lv_room (Nat.le_of_ble_eq_true rfl)) d_La_law_6 ⟨Nat.le_of_ble_eq_true rfl, Nat.le_of_ble_eq_true rfl⟩) hLo (fun r8 h9 H10 locs hp12 hH z11 hLo => ?_)
  have hz : s.heap.size ≤ H10.size := Nat.le_trans hz z11
  obtain ⟨rfl, rfl⟩ := hp12
  refine hm_callv (va_runI (As := [.int (cel L xs)]) (b := q2) (rest := [.ref q2]) ⟨hx, hb, hml, hown, hts⟩ (c_Di_init l D t G ak av h6 q2 (cel L xs) f_x) ⟨cw9B 1 hts mw_796 mw_797 mw_121 rfl rfl (by decide +kernel) ⟨Nat.le_of_ble_eq_true rfl, Nat.le_of_ble_eq_true rfl⟩, rfl, hts _ mw_798⟩ (hP_S kE_ok hE hH) rfl rfl hl.1 rfl (lv_room (Nat.le_of_ble_eq_true rfl)) d_La_law_9 ⟨Nat.le_of_ble_eq_true rfl, Nat.le_of_ble_eq_true rfl⟩) hLo (fun h13 H14 locs hp16 hH z15 hLo => ?_)
  have hz : s.heap.size ≤ H14.size := Nat.le_trans hz z15
  obtain ⟨-, hFX⟩ := hp16
  refine lv_astore_n (lv' := [(1, .ref q2), (0, .ref b)]) hx hb d_La_law_12 rfl hl (by decide) rfl (fun ls hl => ?_)
  have hXv : hm D vwCl (gNew s.heap) h13 H14 := by rw [← hGd1]; exact hH
  have hS : va_S (P0 s) s.heap H14 locs := vaS_step (G := gNew s.heap) hS rfl (fun _ z => z) hXv (by rw [hGd1] at hLo; exact hLo)
  have hz0 : s.heap.size ≤ H14.size := hS.1
  refine va_forget (fun q hq => hS.2.2 q hq) ?_
  have hS : va_S (P0 s) s.heap H14 [] := ⟨hS.1, hS.2.1, fun _ z => by cases z⟩
  obtain ⟨G, hGd2⟩ : ∃ z, z = gNew H14 := ⟨_, rfl⟩
  obtain ⟨h, hh2⟩ : ∃ z : hM, z = fun _ => none := ⟨_, rfl⟩
  have hE : kE D t G ak av s := kE_g hE0 hS (by rw [hGd2]; rfl) (by rw [hGd2]; exact fun q hq => Nat.le_trans hS.1 hq)
  have hH : hm D vwCl G h H14 := by rw [hGd2, hh2]; exact hm_none
  have hLo : hLc G.P [] := hLc_nil
  have hz : s.heap.size ≤ H14.size := hS.1
  have hXG : va_X b L xs s G.H ∧ b < G.H.size ∧ ¬ G.P b := by rw [hGd2]; exact ⟨va_X.kept hXs (hS.2.1 b hbl hbA), Nat.lt_of_lt_of_le hbl hS.1, Nat.not_le.mpr (Nat.lt_of_lt_of_le hbl hS.1)⟩
  refine hm_new (ci := 9) (fs := [.int 0, .int 0, .int 0, .null, .null, .null, .int 0, .int 0, .int 0, .null, .int 0, .null, .null, .null, .null, .null, .null, .null, .null, .null, .int 0, .null, .int 0, .int 0, .null, .null, .null, .int 0, .int 0, .null, .null, .null, .null, .null, .null, .int 0, .null, .null, .null, .null, .null]) (C := R_Mo) (T := F_Mo) (N := 41) hx hb hts ig_Mo t_Mo tk_Mo hown (hts _ mw_799) (hts _ mw_630) (hts _ mw_428) hK hH rfl df_Mo (Nat.le_of_ble_eq_true rfl) (Nat.le_of_ble_eq_true rfl) d_La_law_13 (fun q18 H17 hq19 hn20 hH z21 => ?_)
  have hz : s.heap.size ≤ H17.size := by rw [z21]; exact Nat.le_succ_of_le hz
  obtain ⟨h22, e23⟩ : ∃ z, z = hu h q18 (.inr (9, [.int 0, .int 0, .int 0, .null, .null, .null, .int 0, .int 0, .int 0, .null, .int 0, .null, .null, .null, .null, .null, .null, .null, .null, .null, .int 0, .null, .int 0, .int 0, .null, .null, .null, .int 0, .int 0, .null, .null, .null, .null, .null, .null, .int 0, .null, .null, .null, .null, .null])) := ⟨_, rfl⟩
  have hH : hm D vwCl G h22 H17 := by rw [e23]; exact hH
  have f_m : h22 q18 = some (.inr (9, [.int 0, .int 0, .int 0, .null, .null, .null, .int 0, .int 0, .int 0, .null, .int 0, .null, .null, .null, .null, .null, .null, .null, .null, .null, .int 0, .null, .int 0, .int 0, .null, .null, .null, .int 0, .int 0, .null, .null, .null, .null, .null, .null, .int 0, .null, .null, .null, .null, .null])) := by rw [e23]; exact hu_s _ _ _
  refine lv_dup hx hb d_La_law_16 rfl ?_
  refine lv_aload_n hx hb d_La_law_17 rfl (lv_at hl 1 rfl) ?_
  refine lv_iconst (v := 0) hx hb d_La_law_18 (by decide) ?_
  refine hm_calli (va_runS (As := [.ref b, .int 0]) (rest := [.ref q18, .ref q18]) ⟨hx, hb, hml, hown, hts⟩ (c_l_cell l D t G ak av h22 b L xs hL) ⟨cw9B 2 hts mw_793 mw_794 mw_755 rfl rfl (by decide +kernel) ⟨Nat.le_of_ble_eq_true rfl, Nat.le_of_ble_eq_true rfl⟩, hts _ mw_795⟩ (hP_S kX_ok ⟨hE, hXG⟩ hH) rfl rfl hl.1 rfl (lv_room (Nat.le_of_ble_eq_true rfl)) d_La_law_19 ⟨Nat.le_of_ble_eq_true rfl, Nat.le_of_ble_eq_true rfl⟩) hLo (fun r24 h25 H26 locs hp28 hH z27 hLo => ?_)
  have hz : s.heap.size ≤ H26.size := Nat.le_trans hz z27
  obtain ⟨rfl, rfl⟩ := hp28
  refine hm_callv (va_runI (As := [.int (cel L xs)]) (b := q18) (rest := [.ref q18]) ⟨hx, hb, hml, hown, hts⟩ (c_m_init l D t G ak av h22 q18 (cel L xs) f_m) ⟨cw9B 1 hts mw_800 mw_801 mw_428 rfl rfl (by decide +kernel) ⟨Nat.le_of_ble_eq_true rfl, Nat.le_of_ble_eq_true rfl⟩, rfl, hts _ mw_802⟩ (hP_S kE_ok hE hH) rfl rfl hl.1 rfl (lv_room (Nat.le_of_ble_eq_true rfl)) d_La_law_22 ⟨Nat.le_of_ble_eq_true rfl, Nat.le_of_ble_eq_true rfl⟩) hLo (fun h29 H30 locs hp32 hH z31 hLo => ?_)
  have hz : s.heap.size ≤ H30.size := Nat.le_trans hz z31
  obtain ⟨-, hFM⟩ := hp32
  refine lv_astore_n (lv' := [(2, .ref q18), (1, .ref q2), (0, .ref b)]) hx hb d_La_law_25 rfl hl (by decide) rfl (fun ls hl => ?_)
  refine lv_iconst (v := 1) hx hb d_La_law_26 (by decide) ?_
  have hv2 := hH
  have hLo2 := hLo
  refine hm_newa (atype := .long) (ty := .long) (N' := 1) (a0 := (1, .inr (.inl (fun _ => 0)))) hx hb (hts _ mw_406) rfl hK hH 3 (cA := (t 3)) rfl (hK.2 3 _ rfl).2 (fun _ => rfl) (by decide) (by decide) (by decide) (Nat.le_of_ble_eq_true rfl) (Nat.le_of_ble_eq_true rfl) d_La_law_27 (fun q34 H33 hq35 hn36 hH z37 => ?_)
  have hz : s.heap.size ≤ H33.size := by rw [z37]; exact Nat.le_succ_of_le hz
  obtain ⟨h38, e39⟩ : ∃ z, z = hu h29 q34 (.inl ((t 3), 1, .inr (.inl (fun _ => 0)))) := ⟨_, rfl⟩
  have hH : hm D vwCl G h38 H33 := by rw [e39]; exact hH
  have f_ou : h38 q34 = some (.inl ((t 3), 1, .inr (.inl (fun _ => 0)))) := by rw [e39]; exact hu_s _ _ _
  obtain ⟨hM9, hO9, hold, hAB, hBH⟩ := mv9 (H1 := H14) (e := .inl ((t 3), 1, .inr (.inl (fun _ => 0)))) hGd2 hv2 hq35 (by rw [← e39]; exact hH)
  have hou := one9_s q34 (.inl ((t 3), 1, .inr (.inl (fun _ => 0))))
  generalize one9 q34 (.inl ((t 3), 1, .inr (.inl (fun _ => 0)))) = ho at hO9 hou
  have hX9 : hm D vwCl (gIn H33 s.heap.size H14.size) h13 H33 := in9x hXv (Nat.le_trans hAB (Nat.le_of_lt hBH)) hold
  have hLP : hLc (P0 s) locs := fun q hq => Nat.le_trans hS.1 (by have z9 := hLo q hq; rw [hGd2] at z9; exact z9)
  have hS : va_S (P0 s) s.heap H33 locs := vaS_step (G := gNew H14) hS rfl (fun _ z => Nat.le_trans hS.1 z) (by rw [← hGd2]; exact hH) hLP
  have hmo : H14.size ≤ q18 ∧ q18 < q34 := by
    obtain ⟨fo9, hfo9⟩ := FrM_ob hFM
    have z1 := hv2.ge hfo9
    rw [hGd2] at z1
    have z2 := hv2.lt hfo9
    exact ⟨z1, by rw [hq35]; exact z2⟩
  refine lv_astore_n (lv' := [(3, .ref q34), (2, .ref q18), (1, .ref q2), (0, .ref b)]) hx hb d_La_law_29 rfl hl (by decide) rfl (fun ls hl => ?_)
  refine lv_iconst (v := 1) hx hb d_La_law_30 (by decide) ?_
  refine lv_istore (lv' := [(4, .int 1), (3, .ref q34), (2, .ref q18), (1, .ref q2), (0, .ref b)]) hx hb d_La_law_31 hl (by decide) rfl (fun ls hl => ?_)
  refine lv_iload hx hb d_La_law_33 (lv_at hl 0 rfl) ?_
  refine lv_aload_n hx hb d_La_law_35 rfl (lv_at hl 4 rfl) ?_
  refine va_slen hx hb hXs hbl hbA hS d_La_law_36 ?_
  refine lv_bipush (v := 6) hx hb d_La_law_37 (by decide) ?_
  refine lv_isub hx hb d_La_law_39 ?_
  refine lv_icmp_gt (tgt := 1006) hx hb d_La_law_40 (by decide) (fun hc40 => ?_) (fun hc40 => ?_)
  · skip
    refine lv_iconst (v := 1) hx hb d_La_law_1006 (by decide) ?_
    refine va_forget (fun q hq => hS.2.2 q hq) ?_
    refine W.widen (k := 600002) (n := 7302198) (Nat.le_of_ble_eq_true rfl) (Nat.le_of_ble_eq_true rfl) ?_
    exact lw_ret hx hb hr hlocks d_La_law_1007
  · skip
    obtain rfl : L = 7 := l7 hL hc40
    refine lv_aload_n hx hb d_La_law_43 rfl (lv_at hl 4 rfl) ?_
    refine lv_iload hx hb d_La_law_44 (lv_at hl 0 rfl) ?_
    refine va_sld hx hb hXs hbl hbA hS (show ¬ ((1 : Int32) < 0 ∨ 7 ≤ (1 : Int32).toNatClampNeg) by decide) d_La_law_46 ?_
    refine lv_topi (fun v41 e42 => ?_)
    obtain rfl : v41 = xs 1 := e42.trans (rfl)
    refine lv_bipush (v := 31) hx hb d_La_law_47 (by decide) ?_
    refine lv_iand hx hb d_La_law_49 ?_
    obtain ⟨k, hk, hke⟩ := sw9 (xs 1)
    refine lv_topi (fun v43 e44 => ?_)
    obtain rfl : v43 = nI k := e44.trans (hke)
    refine W.widen (k := 340) (n := 998345) (Nat.le_of_ble_eq_true rfl) (Nat.le_of_ble_eq_true rfl) ?_
    have hS0 : s.heap.size ≤ H14.size := hz0
    rcases (show k = 0 ∨ k = 1 ∨ k = 2 ∨ k = 3 ∨ k = 4 ∨ k = 5 ∨ k = 6 ∨ k = 7 ∨ k = 8 ∨ k = 9 ∨ k = 10 ∨ k = 11 ∨ k = 12 ∨ k = 13 ∨ k = 14 ∨ k = 15 ∨ k = 16 ∨ k = 17 ∨ k = 18 ∨ k = 19 ∨ 20 ≤ k by omega) with rfl | rfl | rfl | rfl | rfl | rfl | rfl | rfl | rfl | rfl | rfl | rfl | rfl | rfl | rfl | rfl | rfl | rfl | rfl | rfl | hk2
    · refine lv_tableIn (x := nI 0) (off := 94) (tgt := 144) hx hb d_La_law_50 (by decide) (by decide) rfl (by decide) ?_
      exact law_c0 l hfl hx hb hr hml hown hts hlocks hE0 hT0 hXs hbl hS hX9 hM9 hO9 hFX hFM hou hmo hS0 hAB hBH (lv_sub hl [0, 1, 2, 3, 4] rfl)
    · refine lv_tableIn (x := nI 1) (off := 119) (tgt := 169) hx hb d_La_law_50 (by decide) (by decide) rfl (by decide) ?_
      exact law_c1 l hfl hx hb hr hml hown hts hlocks hE0 hT0 hXs hbl hS hX9 hM9 hO9 hFX hFM hou hmo hS0 hAB hBH (lv_sub hl [0, 1, 2, 3, 4] rfl)
    · refine lv_tableIn (x := nI 2) (off := 142) (tgt := 192) hx hb d_La_law_50 (by decide) (by decide) rfl (by decide) ?_
      exact law_c2 l hfl hx hb hr hml hown hts hlocks hE0 hT0 hXs hbl hS hX9 hM9 hO9 hFX hFM hou hmo hS0 hAB hBH (lv_sub hl [0, 1, 2, 3, 4] rfl)
    · refine lv_tableIn (x := nI 3) (off := 211) (tgt := 261) hx hb d_La_law_50 (by decide) (by decide) rfl (by decide) ?_
      exact law_c3 l hfl hx hb hr hml hown hts hlocks hE0 hT0 hXs hbl hS hX9 hM9 hO9 hFX hFM hou hmo hS0 hAB hBH (lv_sub hl [0, 1, 2, 3, 4] rfl)
    · refine lv_tableIn (x := nI 4) (off := 304) (tgt := 354) hx hb d_La_law_50 (by decide) (by decide) rfl (by decide) ?_
      exact law_c4 l hfl hx hb hr hml hown hts hlocks hE0 hT0 hXs hbl hS hX9 hM9 hO9 hFX hFM hou hmo hS0 hAB hBH (lv_sub hl [0, 1, 2, 3, 4] rfl)
    · refine lv_tableIn (x := nI 5) (off := 353) (tgt := 403) hx hb d_La_law_50 (by decide) (by decide) rfl (by decide) ?_
      exact law_c5 l hfl hx hb hr hml hown hts hlocks hE0 hT0 hXs hbl hS hX9 hM9 hO9 hFX hFM hou hmo hS0 hAB hBH (lv_sub hl [0, 1, 2, 3, 4] rfl)
    · refine lv_tableIn (x := nI 6) (off := 378) (tgt := 428) hx hb d_La_law_50 (by decide) (by decide) rfl (by decide) ?_
      exact law_c6 l hfl hx hb hr hml hown hts hlocks hE0 hT0 hXs hbl hS hX9 hM9 hO9 hFX hFM hou hmo hS0 hAB hBH (lv_sub hl [0, 1, 2, 3, 4] rfl)
    · refine lv_tableIn (x := nI 7) (off := 459) (tgt := 509) hx hb d_La_law_50 (by decide) (by decide) rfl (by decide) ?_
      exact law_c7 l hfl hx hb hr hml hown hts hlocks hE0 hT0 hXs hbl hS hX9 hM9 hO9 hFX hFM hou hmo hS0 hAB hBH (lv_sub hl [0, 1, 2, 3, 4] rfl)
    · refine lv_tableIn (x := nI 8) (off := 472) (tgt := 522) hx hb d_La_law_50 (by decide) (by decide) rfl (by decide) ?_
      exact law_c8 l hfl hx hb hr hml hown hts hlocks hE0 hT0 hXs hbl hS hX9 hM9 hO9 hFX hFM hou hmo hS0 hAB hBH (lv_sub hl [0, 1, 2, 3, 4] rfl)
    · refine lv_tableIn (x := nI 9) (off := 485) (tgt := 535) hx hb d_La_law_50 (by decide) (by decide) rfl (by decide) ?_
      exact law_c9 l hfl hx hb hr hml hown hts hlocks hE0 hT0 hXs hbl hS hX9 hM9 hO9 hFX hFM hou hmo hS0 hAB hBH (lv_sub hl [0, 1, 2, 3, 4] rfl)
    · refine lv_tableIn (x := nI 10) (off := 498) (tgt := 548) hx hb d_La_law_50 (by decide) (by decide) rfl (by decide) ?_
      exact law_c10 l hfl hx hb hr hml hown hts hlocks hE0 hT0 hXs hbl hS hX9 hM9 hO9 hFX hFM hou hmo hS0 hAB hBH (lv_sub hl [0, 1, 2, 3, 4] rfl)
    · refine lv_tableIn (x := nI 11) (off := 523) (tgt := 573) hx hb d_La_law_50 (by decide) (by decide) rfl (by decide) ?_
      exact law_c11 l hfl hx hb hr hml hown hts hlocks hE0 hT0 hXs hbl hS hX9 hM9 hO9 hFX hFM hou hmo hS0 hAB hBH (lv_sub hl [0, 1, 2, 3, 4] rfl)
    · refine lv_tableIn (x := nI 12) (off := 548) (tgt := 598) hx hb d_La_law_50 (by decide) (by decide) rfl (by decide) ?_
      exact law_c12 l hfl hx hb hr hml hown hts hlocks hE0 hT0 hXs hbl hS hX9 hM9 hO9 hFX hFM hou hmo hS0 hAB hBH (lv_sub hl [0, 1, 2, 3, 4] rfl)
    · refine lv_tableIn (x := nI 13) (off := 585) (tgt := 635) hx hb d_La_law_50 (by decide) (by decide) rfl (by decide) ?_
      exact law_c13 l hfl hx hb hr hml hown hts hlocks hE0 hT0 hXs hbl hS hX9 hM9 hO9 hFX hFM hou hmo hS0 hAB hBH (lv_sub hl [0, 1, 2, 3, 4] rfl)
    · refine lv_tableIn (x := nI 14) (off := 598) (tgt := 648) hx hb d_La_law_50 (by decide) (by decide) rfl (by decide) ?_
      exact law_c14 l hfl hx hb hr hml hown hts hlocks hE0 hT0 hXs hbl hS hX9 hM9 hO9 hFX hFM hou hmo hS0 hAB hBH (lv_sub hl [0, 1, 2, 3, 4] rfl)
    · refine lv_tableIn (x := nI 15) (off := 666) (tgt := 716) hx hb d_La_law_50 (by decide) (by decide) rfl (by decide) ?_
      exact law_c15 l hfl hx hb hr hml hown hts hlocks hE0 hT0 hXs hbl hS hX9 hM9 hO9 hFX hFM hou hmo hS0 hAB hBH (lv_sub hl [0, 1, 2, 3, 4] rfl)
    · refine lv_tableIn (x := nI 16) (off := 691) (tgt := 741) hx hb d_La_law_50 (by decide) (by decide) rfl (by decide) ?_
      exact law_c16 l hfl hx hb hr hml hown hts hlocks hE0 hT0 hXs hbl hS hX9 hM9 hO9 hFX hFM hou hmo hS0 hAB hBH (lv_sub hl [0, 1, 2, 3, 4] rfl)
    · refine lv_tableIn (x := nI 17) (off := 759) (tgt := 809) hx hb d_La_law_50 (by decide) (by decide) rfl (by decide) ?_
      exact law_c17 l hfl hx hb hr hml hown hts hlocks hE0 hT0 hXs hbl hS hX9 hM9 hO9 hFX hFM hou hmo hS0 hAB hBH (lv_sub hl [0, 1, 2, 3, 4] rfl)
    · refine lv_tableIn (x := nI 18) (off := 814) (tgt := 864) hx hb d_La_law_50 (by decide) (by decide) rfl (by decide) ?_
      exact law_c18 l hfl hx hb hr hml hown hts hlocks hE0 hT0 hXs hbl hS hX9 hM9 hO9 hFX hFM hou hmo hS0 hAB hBH (lv_sub hl [0, 1, 2, 3, 4] rfl)
    · refine lv_tableIn (x := nI 19) (off := 882) (tgt := 932) hx hb d_La_law_50 (by decide) (by decide) rfl (by decide) ?_
      exact law_c19 l hfl hx hb hr hml hown hts hlocks hE0 hT0 hXs hbl hS hX9 hM9 hO9 hFX hFM hou hmo hS0 hAB hBH (lv_sub hl [0, 1, 2, 3, 4] rfl)
    · refine lv_tableOut (x := nI k) (tgt := 1000) hx hb d_La_law_50 (Or.inr (by rw [nI_toInt (by omega)]; omega)) (by decide) ?_
      exact law_end l hfl hx hb hr hml hown hts hlocks hXs hbl hS (Nat.le_of_ble_eq_true rfl) (Nat.le_of_ble_eq_true rfl) (lv_sub hl [0, 4] rfl)
