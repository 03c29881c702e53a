set_option maxRecDepth 100000 in
theorem mw_1079 : Cond.classLink R_La 8 R_Di ∈ lw_g := lw_gin (List.mem_append_right _ (List.mem_of_getElem? (i := 22) rfl)) (by decide +kernel)
set_option maxRecDepth 100000 in
theorem mw_1080 : Cond.code y_La_cell b_La_cell 2 (some .int) ∈ lw_g := lw_gin (List.mem_append_right _ (List.mem_of_getElem? (i := 798) rfl)) (by decide +kernel)
set_option maxRecDepth 100000 in
theorem mw_1081 : Cond.methodLink R_La 28 y_La_cell ∈ lw_g := lw_gin (List.mem_append_right _ (List.mem_of_getElem? (i := 796) rfl)) (by decide +kernel)
set_option maxRecDepth 100000 in
theorem mw_1082 : Cond.static y_La_cell ∈ lw_g := lw_gin (List.mem_append_right _ (List.mem_of_getElem? (i := 797) rfl)) (by decide +kernel)
set_option maxRecDepth 100000 in
theorem mw_1083 : Cond.code y_Di_init b_Di_init 2 none ∈ lw_g := lw_gin (List.mem_append_right _ (List.mem_of_getElem? (i := 26) rfl)) (by decide +kernel)
set_option maxRecDepth 100000 in
theorem mw_1084 : Cond.methodLink R_La 34 y_Di_init ∈ lw_g := lw_gin (List.mem_append_right _ (List.mem_of_getElem? (i := 24) rfl)) (by decide +kernel)
set_option maxRecDepth 100000 in
theorem mw_1085 : Cond.instanceMethod y_Di_init ∈ lw_g := lw_gin (List.mem_append_right _ (List.mem_of_getElem? (i := 25) rfl)) (by decide +kernel)
set_option maxRecDepth 100000 in
theorem mw_1086 : Cond.classLink R_La 37 R_Mo ∈ lw_g := lw_gin (List.mem_append_right _ (List.mem_of_getElem? (i := 905) rfl)) (by decide +kernel)
set_option maxRecDepth 100000 in
theorem mw_1087 : Cond.code y_Mo_init b_Mo_init 2 none ∈ lw_g := lw_gin (List.mem_append_right _ (List.mem_of_getElem? (i := 909) rfl)) (by decide +kernel)
set_option maxRecDepth 100000 in
theorem mw_1088 : Cond.methodLink R_La 39 y_Mo_init ∈ lw_g := lw_gin (List.mem_append_right _ (List.mem_of_getElem? (i := 907) rfl)) (by decide +kernel)
set_option maxRecDepth 100000 in
theorem mw_1089 : Cond.instanceMethod y_Mo_init ∈ lw_g := lw_gin (List.mem_append_right _ (List.mem_of_getElem? (i := 908) rfl)) (by decide +kernel)
theorem d_La_cell_0 : decode b_La_cell 0 = .ok (.iload_n 1, 1) := by decide +kernel
theorem d_La_cell_1 : decode b_La_cell 1 = .ok (.aload_n 0, 1) := by decide +kernel
theorem d_La_cell_2 : decode b_La_cell 2 = .ok (.arraylength, 1) := by decide +kernel
theorem d_La_cell_3 : decode b_La_cell 3 = .ok (.if_icmp .ge 9, 3) := by decide +kernel
theorem d_La_cell_12 : decode b_La_cell 12 = .ok (.iconst 0, 1) := by decide +kernel
theorem d_La_cell_13 : decode b_La_cell 13 = .ok (.ireturn, 1) := by decide +kernel
theorem d_La_cell_6 : decode b_La_cell 6 = .ok (.aload_n 0, 1) := by decide +kernel
theorem d_La_cell_7 : decode b_La_cell 7 = .ok (.iload_n 1, 1) := by decide +kernel
theorem d_La_cell_8 : decode b_La_cell 8 = .ok (.iaload, 1) := by decide +kernel
theorem d_La_cell_9 : decode b_La_cell 9 = .ok (.goto 4, 3) := by decide +kernel
theorem d_La_law_0 : decode b_La_law 0 = .ok (.new 8, 3) := by decide +kernel
theorem d_La_law_3 : decode b_La_law 3 = .ok (.dup, 1) := by decide +kernel
theorem d_La_law_4 : decode b_La_law 4 = .ok (.aload_n 0, 1) := by decide +kernel
theorem d_La_law_5 : decode b_La_law 5 = .ok (.iconst 0, 1) := by decide +kernel
theorem d_La_law_6 : decode b_La_law 6 = .ok (.invokestatic 28, 3) := by decide +kernel
theorem d_La_law_9 : decode b_La_law 9 = .ok (.invokespecial 34, 3) := by decide +kernel
theorem d_La_law_12 : decode b_La_law 12 = .ok (.astore_n 1, 1) := by decide +kernel
theorem d_La_law_13 : decode b_La_law 13 = .ok (.new 37, 3) := by decide +kernel
theorem d_La_law_16 : decode b_La_law 16 = .ok (.dup, 1) := by decide +kernel
theorem d_La_law_17 : decode b_La_law 17 = .ok (.aload_n 0, 1) := by decide +kernel
theorem d_La_law_18 : decode b_La_law 18 = .ok (.iconst 0, 1) := by decide +kernel
theorem d_La_law_19 : decode b_La_law 19 = .ok (.invokestatic 28, 3) := by decide +kernel
theorem d_La_law_22 : decode b_La_law 22 = .ok (.invokespecial 39, 3) := by decide +kernel
theorem d_La_law_25 : decode b_La_law 25 = .ok (.astore_n 2, 1) := by decide +kernel
theorem d_La_law_26 : decode b_La_law 26 = .ok (.iconst 1, 1) := by decide +kernel
theorem d_La_law_27 : decode b_La_law 27 = .ok (.newarray .long, 2) := by decide +kernel
theorem d_La_law_29 : decode b_La_law 29 = .ok (.astore_n 3, 1) := by decide +kernel
theorem d_La_law_30 : decode b_La_law 30 = .ok (.iconst 1, 1) := by decide +kernel
theorem d_La_law_31 : decode b_La_law 31 = .ok (.istore 4, 2) := by decide +kernel
set_option maxHeartbeats 4000000 in
set_option maxRecDepth 100000 in
theorem c_l_cell (l : Launch) (D : va_G) (t : Nat → ClassId) (G : hG) (ak av : Nat → Nat) (h : hM) (b L : Nat) (xs : Nat → Int32) (hL7 : L ≤ 3073) : Met l y_La_cell (.code y_La_cell b_La_cell 2 (some .int) :: lw_g) { frames := 0, cells := 0, slots := 0, locals := 0 } (hP (kX D t G ak av b L xs) D vwCl G h [.ref b, .int 0]) (hQi D vwCl G (fun r h' => r = cel L xs ∧ h = h')) 0 0 G.P := by
  refine Met.ofW (cc := b_La_cell) (maxL := 2) (ret := (some .int)) (by decide) rfl ?_
  intro p e s m args below meth c s₁ Bd hml hv
  obtain ⟨ha, ⟨hE, hE1⟩, hH⟩ := hv
  have hx := Bd.exec
  have hb := Bd.bytes
  have hr := Bd.returns
  have hts : ∀ w ∈ lw_g, w.before args s = true := fun w hw => atoms_spec (ws := (.code y_La_cell b_La_cell 2 (some .int) :: lw_g)) Bd.pre w (List.mem_cons_of_mem _ hw)
  have hown : s.vm.findClass R_La = some m.cls := findClass_of_methodNamed Bd.named
  have hlocks := Bd.notSynchronized
  have hK := hE.1
  have hH0 := hH
  have hLo : hLc G.P [] := hLc_nil
  have hz : s.heap.size ≤ s.heap.size := Nat.le_refl _
  have hkp : kp [] h h := kp_rf
  have hl := lv_entry [.ref b, .int 0] (n := 2) (Nat.le_of_ble_eq_true rfl)
  rw [show entryFrame m args 2 = F0 m 0 ((lg_sl [.ref b, .int 0] ++ List.replicate (2 - (lg_sl [.ref b, .int 0]).length) Slot.unset).toArray) [] from (by rw [ha]; exact lg_entry_eq m [.ref b, .int 0] 2)]
  generalize (lg_sl [.ref b, .int 0] ++ List.replicate (2 - (lg_sl [.ref b, .int 0]).length) Slot.unset).toArray = ls at hl ⊢
  have hl : lv_has ls 2 [(0, .ref b), (1, .int 0)] := hl
  obtain ⟨hXs, hbl, hbA⟩ := hE1
  have hS9 : va_S G.P G.H s.heap [] := ⟨hH.1.1, fun q _ hn => hH.1.2 q hn, hLo⟩
  refine lv_iload_n hx hb d_La_cell_0 rfl (lv_at hl 1 rfl) ?_
  refine lv_aload_n hx hb d_La_cell_1 rfl (lv_at hl 0 rfl) ?_
  refine va_slen hx hb hXs hbl hbA hS9 d_La_cell_2 ?_
  have inL : (Int32.ofNat L).toInt = L := nI_toInt (by omega)
  refine lv_icmp_ge (tgt := 12) hx hb d_La_cell_3 (by decide) (fun hc1 => ?_) (fun hc1 => ?_)
  · skip
    have hz9 := iLe hc1
    rw [show (0 : Int32).toInt = 0 from rfl] at hz9
    refine lv_iconst (v := 0) hx hb d_La_cell_12 (by decide) ?_
    exact W.iret (v := 0) hx hb hr (fun t9 ht hW => ⟨0, h, rfl, ⟨(if_neg (by omega)).symm, rfl⟩, by rw [ht]; exact hH, by rw [ht]; exact hz⟩) hLo d_La_cell_13
  · skip
    have hz9 := iNe hc1
    rw [show (0 : Int32).toInt = 0 from rfl] at hz9
    have hLp : 0 < L := by omega
    refine lv_aload_n hx hb d_La_cell_6 rfl (lv_at hl 0 rfl) ?_
    refine lv_iload_n hx hb d_La_cell_7 rfl (lv_at hl 1 rfl) ?_
    refine va_sld hx hb hXs hbl hbA hS9 (iIn (by decide) (by rw [show (0 : Int32).toInt = 0 from rfl]; omega)) d_La_cell_8 ?_
    refine lv_topi (fun v2 e3 => ?_)
    obtain rfl : v2 = xs 0 := e3.trans (rfl)
    refine lv_goto (tgt := 13) hx hb d_La_cell_9 (by decide) ?_
    exact W.iret (v := xs 0) hx hb hr (fun t9 ht hW => ⟨xs 0, h, rfl, ⟨(if_pos hLp).symm, rfl⟩, by rw [ht]; exact hH, by rw [ht]; exact hz⟩) hLo d_La_cell_13

set_option maxHeartbeats 4000000 in
set_option maxRecDepth 100000 in
theorem whole_start {p : Program} {e : Env} {s : State} {m : MethodId} {below : List Frame} {meth : Method} {c : Code} (l : Launch) (hfl : l.flags = flags0) {b L : Nat} {xs : Nat → Int32} (hL : L ≤ 3073) (C0 : lw_At p s m meth c b L xs) : W p l e room_1 s m #[Value.ref b] below meth c s.heap [] 0 0 (lw_Z below #[Value.ref b] s) (entryFrame m ([Value.ref b] : List Value).toArray 8) := by
  obtain ⟨hx, hb, hr, hml, hown, htb, hXs, hbl, hlocks, hgv⟩ := C0
  have hts : ∀ w ∈ lw_g, w.before #[Value.ref b] s = true := fun w hw => htb w (List.mem_filter.mp hw).1
  obtain ⟨D, t, ak, av, hE0⟩ := law_env htb hts hgv
  have hT0 : kT (gNew s.heap) s := env_T htb
  have hbA : ¬ P0 s b := Nat.not_le.mpr hbl
  have hl := lv_entry [.ref b] (n := 8) (Nat.le_of_ble_eq_true rfl)
  rw [show entryFrame m ([Value.ref b] : List Value).toArray 8 = F0 m 0 ((lg_sl [.ref b] ++ List.replicate (8 - (lg_sl [.ref b]).length) Slot.unset).toArray) [] from lg_entry_eq m [.ref b] 8]
  generalize (lg_sl [.ref b] ++ List.replicate (8 - (lg_sl [.ref b]).length) Slot.unset).toArray = ls at hl ⊢
  have hl : lv_has ls 8 [(0, .ref b)] := hl
  have hS : va_S (P0 s) s.heap s.heap [] := ⟨Nat.le_refl _, fun _ _ _ => rfl, fun _ h => by cases h⟩
  obtain ⟨G, hGd1⟩ : ∃ z, z = gNew s.heap := ⟨_, rfl⟩
  obtain ⟨h, hh1⟩ : ∃ z : hM, z = fun _ => none := ⟨_, rfl⟩
  have hE : kE D t G ak av s := by rw [hGd1]; exact hE0
  have hK := hE0.1
  have hH : hm D vwCl G h s.heap := by rw [hGd1, hh1]; exact hm_none
  have hLo : hLc G.P [] := hLc_nil
  have hz : s.heap.size ≤ s.heap.size := Nat.le_refl _
  have hXG : va_X b L xs s G.H ∧ b < G.H.size ∧ ¬ G.P b := by rw [hGd1]; exact ⟨hXs, hbl, hbA⟩
  refine hm_new (ci := 8) (fs := [.null, .null, .null, .null, .null, .int 0, .int 0, .null, .null]) (C := R_Di) (T := F_Di) (N := 9) hx hb hts ig_Di t_Di tk_Di hown (hts _ mw_1079) (hts _ mw_1077) (hts _ mw_25) hK hH rfl df_Di (Nat.le_of_ble_eq_true rfl) (Nat.le_of_ble_eq_true rfl) d_La_law_0 (fun q2 H1 hq3 hn4 hH z5 => ?_)
  have hz : s.heap.size ≤ H1.size := by rw [z5]; exact Nat.le_succ_of_le hz
  obtain ⟨h6, e7⟩ : ∃ z, z = hu h q2 (.inr (8, [.null, .null, .null, .null, .null, .int 0, .int 0, .null, .null])) := ⟨_, rfl⟩
  have hH : hm D vwCl G h6 H1 := by rw [e7]; exact hH
  have f_x : h6 q2 = some (.inr (8, [.null, .null, .null, .null, .null, .int 0, .int 0, .null, .null])) := by rw [e7]; exact hu_s _ _ _
  refine lv_dup hx hb d_La_law_3 rfl ?_
  refine lv_aload_n hx hb d_La_law_4 rfl (lv_at hl 0 rfl) ?_
  refine lv_iconst (v := 0) hx hb d_La_law_5 (by decide) ?_
  refine hm_calli (va_runS (As := [.ref b, .int 0]) (rest := [.ref q2, .ref q2]) ⟨hx, hb, hml, hown, hts⟩ (c_l_cell l D t G ak av h6 b L xs hL) ⟨cw9B 2 hts mw_1080 mw_1081 mw_1036 rfl rfl (by decide +kernel) ⟨Nat.le_of_ble_eq_true rfl, Nat.le_of_ble_eq_true rfl⟩, hts _ mw_1082⟩ (hP_S kX_ok ⟨hE, hXG⟩ hH) rfl rfl hl.1 rfl (lv_room (Nat.le_of_ble_eq_true rfl)) d_La_law_6 ⟨Nat.le_of_ble_eq_true rfl, Nat.le_of_ble_eq_true rfl⟩) hLo (fun r8 h9 H10 locs hp12 hH z11 hLo => ?_)
  have hz : s.heap.size ≤ H10.size := Nat.le_trans hz z11
  obtain ⟨rfl, rfl⟩ := hp12
  refine hm_callv (va_runI (As := [.int (cel L xs)]) (b := q2) (rest := [.ref q2]) ⟨hx, hb, hml, hown, hts⟩ (x_init l D t G ak av h6 q2 (cel L xs) f_x) ⟨cw9B 1 hts mw_1083 mw_1084 mw_25 rfl rfl (by decide +kernel) ⟨Nat.le_of_ble_eq_true rfl, Nat.le_of_ble_eq_true rfl⟩, rfl, hts _ mw_1085⟩ (hP_S kE_ok hE hH) rfl rfl hl.1 rfl (lv_room (Nat.le_of_ble_eq_true rfl)) d_La_law_9 ⟨Nat.le_of_ble_eq_true rfl, Nat.le_of_ble_eq_true rfl⟩) hLo (fun h13 H14 locs hp16 hH z15 hLo => ?_)
  have hz : s.heap.size ≤ H14.size := Nat.le_trans hz z15
  obtain ⟨τ, L8, hX, hph⟩ := hp16
  refine lv_astore_n (lv' := [(1, .ref q2), (0, .ref b)]) hx hb d_La_law_12 rfl hl (by decide) rfl (fun ls hl => ?_)
  have hXv : hm D vwCl (gNew s.heap) h13 H14 := by rw [← hGd1]; exact hH
  have hS : va_S (P0 s) s.heap H14 locs := vaS_step (G := gNew s.heap) hS rfl (fun _ z => z) hXv (by rw [hGd1] at hLo; exact hLo)
  refine va_forget (fun q hq => hS.2.2 q hq) ?_
  have hS : va_S (P0 s) s.heap H14 [] := ⟨hS.1, hS.2.1, fun _ z => by cases z⟩
  obtain ⟨G, hGd2⟩ : ∃ z, z = gNew H14 := ⟨_, rfl⟩
  obtain ⟨h, hh2⟩ : ∃ z : hM, z = fun _ => none := ⟨_, rfl⟩
  have hE : kE D t G ak av s := kE_g hE0 hS (by rw [hGd2]; rfl) (by rw [hGd2]; exact fun q hq => Nat.le_trans hS.1 hq)
  have hH : hm D vwCl G h H14 := by rw [hGd2, hh2]; exact hm_none
  have hLo : hLc G.P [] := hLc_nil
  have hz : s.heap.size ≤ H14.size := hS.1
  have hXG : va_X b L xs s G.H ∧ b < G.H.size ∧ ¬ G.P b := by rw [hGd2]; exact ⟨va_X.kept hXs (hS.2.1 b hbl hbA), Nat.lt_of_lt_of_le hbl hS.1, Nat.not_le.mpr (Nat.lt_of_lt_of_le hbl hS.1)⟩
  refine hm_new (ci := 9) (fs := [.int 0, .int 0, .int 0, .null, .null, .null, .int 0, .int 0, .int 0, .null, .int 0, .null, .null, .null, .null, .null, .null, .null, .null, .null, .int 0, .null, .int 0, .int 0, .null, .null, .null, .int 0, .int 0, .null, .null, .null, .null, .null, .null, .int 0, .null, .null, .null, .null, .null]) (C := R_Mo) (T := F_Mo) (N := 41) hx hb hts ig_Mo t_Mo tk_Mo hown (hts _ mw_1086) (hts _ mw_1078) (hts _ mw_579) hK hH rfl df_Mo (Nat.le_of_ble_eq_true rfl) (Nat.le_of_ble_eq_true rfl) d_La_law_13 (fun q18 H17 hq19 hn20 hH z21 => ?_)
  have hz : s.heap.size ≤ H17.size := by rw [z21]; exact Nat.le_succ_of_le hz
  obtain ⟨h22, e23⟩ : ∃ z, z = hu h q18 (.inr (9, [.int 0, .int 0, .int 0, .null, .null, .null, .int 0, .int 0, .int 0, .null, .int 0, .null, .null, .null, .null, .null, .null, .null, .null, .null, .int 0, .null, .int 0, .int 0, .null, .null, .null, .int 0, .int 0, .null, .null, .null, .null, .null, .null, .int 0, .null, .null, .null, .null, .null])) := ⟨_, rfl⟩
  have hH : hm D vwCl G h22 H17 := by rw [e23]; exact hH
  have f_m : h22 q18 = some (.inr (9, [.int 0, .int 0, .int 0, .null, .null, .null, .int 0, .int 0, .int 0, .null, .int 0, .null, .null, .null, .null, .null, .null, .null, .null, .null, .int 0, .null, .int 0, .int 0, .null, .null, .null, .int 0, .int 0, .null, .null, .null, .null, .null, .null, .int 0, .null, .null, .null, .null, .null])) := by rw [e23]; exact hu_s _ _ _
  refine lv_dup hx hb d_La_law_16 rfl ?_
  refine lv_aload_n hx hb d_La_law_17 rfl (lv_at hl 1 rfl) ?_
  refine lv_iconst (v := 0) hx hb d_La_law_18 (by decide) ?_
  refine hm_calli (va_runS (As := [.ref b, .int 0]) (rest := [.ref q18, .ref q18]) ⟨hx, hb, hml, hown, hts⟩ (c_l_cell l D t G ak av h22 b L xs hL) ⟨cw9B 2 hts mw_1080 mw_1081 mw_1036 rfl rfl (by decide +kernel) ⟨Nat.le_of_ble_eq_true rfl, Nat.le_of_ble_eq_true rfl⟩, hts _ mw_1082⟩ (hP_S kX_ok ⟨hE, hXG⟩ hH) rfl rfl hl.1 rfl (lv_room (Nat.le_of_ble_eq_true rfl)) d_La_law_19 ⟨Nat.le_of_ble_eq_true rfl, Nat.le_of_ble_eq_true rfl⟩) hLo (fun r24 h25 H26 locs hp28 hH z27 hLo => ?_)
  have hz : s.heap.size ≤ H26.size := Nat.le_trans hz z27
  obtain ⟨rfl, rfl⟩ := hp28
  refine hm_callv (va_runI (As := [.int (cel L xs)]) (b := q18) (rest := [.ref q18]) ⟨hx, hb, hml, hown, hts⟩ (m_init l D t G ak av h22 q18 (cel L xs) f_m) ⟨cw9B 1 hts mw_1087 mw_1088 mw_579 rfl rfl (by decide +kernel) ⟨Nat.le_of_ble_eq_true rfl, Nat.le_of_ble_eq_true rfl⟩, rfl, hts _ mw_1089⟩ (hP_S kE_ok hE hH) rfl rfl hl.1 rfl (lv_room (Nat.le_of_ble_eq_true rfl)) d_La_law_22 ⟨Nat.le_of_ble_eq_true rfl, Nat.le_of_ble_eq_true rfl⟩) hLo (fun h29 H30 locs hp32 hH z31 hLo => ?_)
  have hz : s.heap.size ≤ H30.size := Nat.le_trans hz z31
  obtain ⟨τm, A, hM9⟩ := hp32
  refine lv_astore_n (lv' := [(2, .ref q18), (1, .ref q2), (0, .ref b)]) hx hb d_La_law_25 rfl hl (by decide) rfl (fun ls hl => ?_)
  refine lv_iconst (v := 1) hx hb d_La_law_26 (by decide) ?_
  have hMv : hm D vwCl (gNew H14) h29 H30 := by rw [← hGd2]; exact hH
  have hLP : hLc (P0 s) locs := fun q hq => Nat.le_trans hS.1 (by have z9 := hLo q hq; rw [hGd2] at z9; exact z9)
  have hS : va_S (P0 s) s.heap H30 locs := vaS_step (G := gNew H14) hS rfl (fun _ z => Nat.le_trans hS.1 z) hMv hLP
  have hQ : LQ D s h13 h29 H30 locs := LQ_0 hS hXv hMv
  obtain ⟨G, hGd3⟩ : ∃ z, z = gD H30 h13 := ⟨_, rfl⟩
  have hH : hm D vwCl G h13 H30 := by rw [hGd3]; exact hQ.2.1
  have hz : s.heap.size ≤ H30.size := hS.1
  refine hm_newa (atype := .long) (ty := .long) (N' := 1) (a0 := (1, .inr (.inl (fun _ => 0)))) hx hb (hts _ mw_839) rfl hK hH 3 (cA := (t 3)) rfl (hK.2 3 _ rfl).2 (fun _ => rfl) (by decide) (by decide) (by decide) (Nat.le_of_ble_eq_true rfl) (Nat.le_of_ble_eq_true rfl) d_La_law_27 (fun q34 H33 hq35 hn36 hH z37 => ?_)
  have hz : s.heap.size ≤ H33.size := by rw [z37]; exact Nat.le_succ_of_le hz
  obtain ⟨h38, e39⟩ : ∃ z, z = hu h13 q34 (.inl ((t 3), 1, .inr (.inl (fun _ => 0)))) := ⟨_, rfl⟩
  have hH : hm D vwCl G h38 H33 := by rw [e39]; exact hH
  have f_ou : h38 q34 = some (.inl ((t 3), 1, .inr (.inl (fun _ => 0)))) := by rw [e39]; exact hu_s _ _ _
  have hQ := LQ_x (h' := h38) hQ (by rw [← hGd3]; exact hH) hQ.1.2.2
  obtain ⟨hX, T_ou, hpo⟩ := ouX (g := fun _ => 0) hX hn36
  rw [← e39] at hX hpo
  refine lv_astore_n (lv' := [(3, .ref q34), (2, .ref q18), (1, .ref q2), (0, .ref b)]) hx hb d_La_law_29 rfl hl (by decide) rfl (fun ls hl => ?_)
  refine lv_iconst (v := 1) hx hb d_La_law_30 (by decide) ?_
  refine lv_istore (lv' := [(4, .int 1), (3, .ref q34), (2, .ref q18), (1, .ref q2), (0, .ref b)]) hx hb d_La_law_31 hl (by decide) rfl (fun ls hl => ?_)
  refine W.widen (k := 340) (n := 1100000) (Nat.le_of_ble_eq_true rfl) (Nat.le_of_ble_eq_true rfl) ?_
  exact law_loop l hfl hx hb hr hml hown hts hlocks (nsz_200 _) hE0 hT0 hXs hbl hL (r := 0) (by decide) rfl ⟨hQ, hX, T_ou, hM9, by omega, by omega⟩ (lv_sub hl [0, 1, 2, 3, 4] rfl)
