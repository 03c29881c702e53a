set_option maxRecDepth 100000 in
theorem mw_452 : Cond.code y_Di_nameIn b_Di_nameIn 6 (some .long) ∈ lw_g := lw_gin (List.mem_append_right _ (List.mem_of_getElem? (i := 302) rfl)) (by decide +kernel)
set_option maxRecDepth 100000 in
theorem mw_453 : Cond.methodLink R_Di 112 y_Di_nameIn ∈ lw_g := lw_gin (List.mem_append_right _ (List.mem_of_getElem? (i := 300) rfl)) (by decide +kernel)
set_option maxRecDepth 100000 in
theorem mw_454 : Cond.static y_Di_nameIn ∈ lw_g := lw_gin (List.mem_append_right _ (List.mem_of_getElem? (i := 301) rfl)) (by decide +kernel)
set_option maxRecDepth 100000 in
theorem mw_455 : Cond.code y_Ns_hasOtherNamed b_Ns_hasOtherNamed 6 (some .boolean) ∈ lw_g := lw_gin (List.mem_append_right _ (List.mem_of_getElem? (i := 309) rfl)) (by decide +kernel)
set_option maxRecDepth 100000 in
theorem mw_456 : Cond.methodLink R_Di 123 y_Ns_hasOtherNamed ∈ lw_g := lw_gin (List.mem_append_right _ (List.mem_of_getElem? (i := 306) rfl)) (by decide +kernel)
set_option maxRecDepth 100000 in
theorem mw_457 : Cond.instanceMethod y_Ns_hasOtherNamed ∈ lw_g := lw_gin (List.mem_append_right _ (List.mem_of_getElem? (i := 307) rfl)) (by decide +kernel)
set_option maxRecDepth 100000 in
theorem mw_458 : Cond.selects R_Ns y_Ns_hasOtherNamed y_Ns_hasOtherNamed ∈ lw_g := lw_gin (List.mem_append_right _ (List.mem_of_getElem? (i := 308) rfl)) (by decide +kernel)
set_option maxRecDepth 100000 in
theorem mw_459 : Cond.methodLink R_Di 230 y_Ns_append ∈ lw_g := lw_gin (List.mem_append_right _ (List.mem_of_getElem? (i := 310) rfl)) (by decide +kernel)
set_option maxRecDepth 100000 in
theorem mw_460 : Cond.methodLink R_Di 234 y_No_become ∈ lw_g := lw_gin (List.mem_append_right _ (List.mem_of_getElem? (i := 314) rfl)) (by decide +kernel)
set_option maxRecDepth 100000 in
theorem mw_461 : Cond.fieldLink R_Di 238 "WriteOnceDisc$Node" "number" "I" ∈ lw_g := lw_gin (List.mem_append_right _ (List.mem_of_getElem? (i := 92) rfl)) (by decide +kernel)
theorem d_Di_added_0 : decode b_Di_added 0 = .ok (.lload_n 3, 1) := by decide +kernel
theorem d_Di_added_1 : decode b_Di_added 1 = .ok (.invokestatic 112, 3) := by decide +kernel
theorem d_Di_added_4 : decode b_Di_added 4 = .ok (.lstore 5, 2) := by decide +kernel
theorem d_Di_added_6 : decode b_Di_added 6 = .ok (.lload 5, 2) := by decide +kernel
theorem d_Di_added_8 : decode b_Di_added 8 = .ok (.lconst 0, 1) := by decide +kernel
theorem d_Di_added_9 : decode b_Di_added 9 = .ok (.lcmp, 1) := by decide +kernel
theorem d_Di_added_10 : decode b_Di_added 10 = .ok (.ifCond .ne 6, 3) := by decide +kernel
theorem d_Di_added_16 : decode b_Di_added 16 = .ok (.aload_n 0, 1) := by decide +kernel
theorem d_Di_added_17 : decode b_Di_added 17 = .ok (.getfield 26, 3) := by decide +kernel
theorem d_Di_added_20 : decode b_Di_added 20 = .ok (.aload_n 1, 1) := by decide +kernel
theorem d_Di_added_21 : decode b_Di_added 21 = .ok (.lload 5, 2) := by decide +kernel
theorem d_Di_added_23 : decode b_Di_added 23 = .ok (.aconst_null, 1) := by decide +kernel
theorem d_Di_added_24 : decode b_Di_added 24 = .ok (.invokevirtual 123, 3) := by decide +kernel
theorem d_Di_added_27 : decode b_Di_added 27 = .ok (.ifCond .eq 6, 3) := by decide +kernel
theorem d_Di_added_33 : decode b_Di_added 33 = .ok (.aload_n 0, 1) := by decide +kernel
theorem d_Di_added_34 : decode b_Di_added 34 = .ok (.getfield 26, 3) := by decide +kernel
theorem d_Di_added_37 : decode b_Di_added 37 = .ok (.invokevirtual 230, 3) := by decide +kernel
theorem d_Di_added_40 : decode b_Di_added 40 = .ok (.astore 7, 2) := by decide +kernel
theorem d_Di_added_42 : decode b_Di_added 42 = .ok (.aload 7, 2) := by decide +kernel
theorem d_Di_added_44 : decode b_Di_added 44 = .ok (.ifnonnull 6, 3) := by decide +kernel
theorem d_Di_added_47 : decode b_Di_added 47 = .ok (.bipush (-3), 2) := by decide +kernel
theorem d_Di_added_49 : decode b_Di_added 49 = .ok (.ireturn, 1) := by decide +kernel
theorem d_Di_added_50 : decode b_Di_added 50 = .ok (.aload 7, 2) := by decide +kernel
theorem d_Di_added_52 : decode b_Di_added 52 = .ok (.aload_n 1, 1) := by decide +kernel
theorem d_Di_added_53 : decode b_Di_added 53 = .ok (.iload_n 2, 1) := by decide +kernel
theorem d_Di_added_54 : decode b_Di_added 54 = .ok (.lload 5, 2) := by decide +kernel
theorem d_Di_added_56 : decode b_Di_added 56 = .ok (.invokevirtual 234, 3) := by decide +kernel
theorem d_Di_added_59 : decode b_Di_added 59 = .ok (.aload 7, 2) := by decide +kernel
theorem d_Di_added_61 : decode b_Di_added 61 = .ok (.getfield 238, 3) := by decide +kernel
theorem d_Di_added_64 : decode b_Di_added 64 = .ok (.ireturn, 1) := by decide +kernel
theorem d_Di_added_30 : decode b_Di_added 30 = .ok (.bipush (-5), 2) := by decide +kernel
theorem d_Di_added_32 : decode b_Di_added 32 = .ok (.ireturn, 1) := by decide +kernel
theorem d_Di_added_13 : decode b_Di_added 13 = .ok (.bipush (-2), 2) := by decide +kernel
theorem d_Di_added_15 : decode b_Di_added 15 = .ok (.ireturn, 1) := by decide +kernel
/-! MY OWN ROWS: the planned tree over the public methods -/
def ndlv (t : Nat → ClassId) (h : hM) (P a : Nat) : Prop := ∃ s o c nn sl, Nds t h P s o c nn sl ∧ live sl c.toInt.toNat a
theorem ndl_lv {t : Nat → ClassId} {h : hM} {P a : Nat} {no : Int32} (hn : ndl t h P a no) : ndlv t h P a := by
  obtain ⟨s, o, c, nn, sl, i, y, h1, h2, h3, -⟩ := hn
  exact ⟨s, o, c, nn, sl, h1, i, h2, h3⟩
theorem TrP_add {τ : tM} {t : Nat → ClassId} {n f : Nat} {h h2 h3 : hM} {P s o x e : Nat} {c nn : Int32} {sl : Nat → Option Nat} {z : Value} (hI : TI τ t n h) (hP : τ P = (7, f)) (hT : TrP t h P) (hN : Nds t h P s o c nn sl) (hlt : c.toInt < 30) (hsl : sl c.toNatClampNeg = some x) (hP2 : h2 P = some (.inr (2, [.ref s, .ref o, .int (c + 1), .int (nn + 1)]))) (hx : τ x = (10, f)) (hfr : ∀ b, (τ b).1 ≠ 0 → b ≠ x → b ≠ P → h2 b = h b) (he : ndlv t h P e) (hk : kf τ [] [x] h2 h3) (hb : nod h3 x = some (z, .ref e)) : TrP t h3 P := by
  obtain ⟨s', o', c', nn', sl', g1, g2, g3, g4⟩ := hT
  obtain ⟨rfl, rfl, rfl, rfl, rfl⟩ := Nds_eq g1 hN
  obtain ⟨s', o', c', nn', sl', q1, q2⟩ := he
  obtain ⟨rfl, rfl, rfl, rfl, rfl⟩ := Nds_eq q1 hN
  obtain ⟨g5, g6⟩ := id hN
  obtain ⟨t1, -, -⟩ := TJ_nds hI hP g5
  obtain ⟨t3, t4⟩ := TJ_slo hI t1 g6
  have hc1 : (c' + 1).toInt = c'.toInt + 1 := iAddK 1 rfl (by omega) (by omega)
  have hsl' : sl' c'.toInt.toNat = some x := hsl
  have nd : ∀ a, live sl' c'.toInt.toNat a → h3 a = h a := fun a ha => by
    have hne := live_ne t4 (by omega) hsl' ha
    obtain ⟨i, hi, hs⟩ := ha
    obtain ⟨a', e1, e2⟩ := t3 i (by omega)
    obtain rfl : a' = a := Option.some.inj (e1.symm.trans hs)
    have hk0 : (τ a').1 ≠ 0 := by rw [e2]; exact Nat.succ_ne_zero _
    rw [hk a' hk0 tn0 (nmc hne nm0), hfr a' hk0 hne (tne e2 hP (by decide))]
  have hPk : h3 P = h2 P := hk P (by rw [hP]; exact Nat.succ_ne_zero _) tn0 (nmc (tne hP hx (by decide)) nm0)
  have hsk : h3 s' = h s' := by
    rw [hk s' (by rw [t1]; exact Nat.succ_ne_zero _) tn0 (nmc (tne t1 hx (by decide)) nm0), hfr s' (by rw [t1]; exact Nat.succ_ne_zero _) (tne t1 hx (by decide)) (tne t1 hP (by decide))]
  refine ⟨s', o', c' + 1, nn' + 1, sl', ⟨by rw [hPk]; exact hP2, by rw [hsk]; exact g6⟩, by omega, by omega, ?_⟩
  rw [show (c' + 1).toInt.toNat = c'.toInt.toNat + 1 by omega]
  exact Tr_add g4 q2 (by simp [prt, hb]) (fun a ha => by simp [prt, nod, nd a ha]) (live_succ hsl')

set_option maxHeartbeats 4000000 in
set_option maxRecDepth 100000 in
theorem x_added (l : Launch) (D : va_G) (t : Nat → ClassId) (G : hG) (ak av : Nat → Nat) (h : hM) (τ : tM) (n : Nat) (x9 : Nat) (d9 : Nat) (z9 : Int32) (w9 : Int64) (hn : n ≤ 200) (hT : TI τ t n h) (T_x9 : τ x9 = (1, 0)) (T_d9 : τ d9 = (10, 0)) (Z_z9 : zb z9) (hU : ∀ a b, τ a = (7, 0) → τ b = (7, 0) → a = b) (hTr : ∀ P, τ P = (7, 0) → TrP t h P) (hlv : ∀ P, τ P = (7, 0) → ndlv t h P d9) : Met l y_Di_added (.code y_Di_added b_Di_added 8 (some .int) :: lw_g) { frames := 2, cells := 0, slots := 0, locals := 47 } (hP (kE D t G ak av) D vwCl G h [.ref x9, .ref d9, .int z9, .long w9]) (hQi D vwCl G (fun r h' => TI τ t n h' ∧ kf τ [(10, 0), (7, 0)] [] h h' ∧ (∀ P, τ P = (7, 0) → TrP t h' P))) 0 0 G.P := by
  refine Met.ofW (cc := b_Di_added) (maxL := 8) (ret := (some .int)) (by decide) rfl ?_
  intro p e s m args below meth c s₁ Bd hml hv
  obtain ⟨ha, hE, hH⟩ := hv
  have hx := Bd.exec
  have hb := Bd.bytes
  have hr := Bd.returns
  have hts : ∀ w ∈ lw_g, w.before args s = true := fun w hw => atoms_spec (ws := (.code y_Di_added b_Di_added 8 (some .int) :: lw_g)) Bd.pre w (List.mem_cons_of_mem _ hw)
  have hown : s.vm.findClass R_Di = some m.cls := findClass_of_methodNamed Bd.named
  have hlocks := Bd.notSynchronized
  have hK := hE.1
  have hH0 := hH
  have hLo : hLc G.P [] := hLc_nil
  have hz : s.heap.size ≤ s.heap.size := Nat.le_refl _
  have hl := lv_entry [.ref x9, .ref d9, .int z9, .long w9] (n := 8) (Nat.le_of_ble_eq_true rfl)
  rw [show entryFrame m args 8 = F0 m 0 ((lg_sl [.ref x9, .ref d9, .int z9, .long w9] ++ List.replicate (8 - (lg_sl [.ref x9, .ref d9, .int z9, .long w9]).length) Slot.unset).toArray) [] from (by rw [ha]; exact lg_entry_eq m [.ref x9, .ref d9, .int z9, .long w9] 8)]
  generalize (lg_sl [.ref x9, .ref d9, .int z9, .long w9] ++ List.replicate (8 - (lg_sl [.ref x9, .ref d9, .int z9, .long w9]).length) Slot.unset).toArray = ls at hl ⊢
  have hl : lv_has ls 8 [(0, .ref x9), (1, .ref d9), (2, .int z9), (3, .long w9)] := hl
  have hkf : kf τ [(10, 0), (7, 0)] [] h h := kf_rf
  refine lv_lload_n hx hb d_Di_added_0 rfl (lv_at hl 3 rfl) ?_
  refine hm_callPl (va_runS (As := [.long w9]) (rest := []) ⟨hx, hb, hml, hown, hts⟩ (t_nameIn l D t G ak av h τ n w9  hn hT ) ⟨cw9B 1 hts mw_452 mw_453 mw_25 rfl rfl (by decide +kernel) ⟨Nat.le_of_ble_eq_true rfl, Nat.le_of_ble_eq_true rfl⟩, hts _ mw_454⟩ (hP_S kE_ok hE hH) rfl rfl hl.1 rfl (lv_room (Nat.le_of_ble_eq_true rfl)) d_Di_added_1 ⟨Nat.le_of_ble_eq_true rfl, Nat.le_of_ble_eq_true rfl⟩) (fun r_1 h_2 H_3 hp_5  hH z_4 => ?_)
  have hz : s.heap.size ≤ H_3.size := Nat.le_trans hz z_4
  obtain rfl := hp_5
  refine lv_lstore (lv' := [(5, .long r_1), (0, .ref x9), (1, .ref d9), (2, .int z9), (3, .long w9)]) hx hb d_Di_added_4 hl (by decide) rfl (fun ls hl => ?_)
  refine lv_lload hx hb d_Di_added_6 (lv_at hl 0 rfl) ?_
  refine lv_lconst (v := 0) hx hb d_Di_added_8 (by decide) ?_
  refine W.lcmp hx hb d_Di_added_9 ?_
  refine lv_if_ne (tgt := 16) hx hb d_Di_added_10 (by decide) (fun hc_7 => ?_) (fun hc_7 => ?_)
  · skip
    refine lv_aload_n hx hb d_Di_added_16 rfl (lv_at hl 1 rfl) ?_
    obtain ⟨v_8, v_10, v_12, v_14, v_16, v_18, v_19, v_21, v_23, F_x9, c_9, c_11, c_13, c_15, c_17, c_20, c_22, c_24⟩ := TI_disc hT T_x9
    refine hm_get (ci := 8) (v := .ref v_12) (C := R_Di) (T := F_Di) (N := 9) hx hb hts ig_Di hown hK hH F_x9 rfl 2 (by decide) (hts _ mw_443) (fun _ h9 => h9) rfl d_Di_added_17 ?_
    refine lv_aload_n hx hb d_Di_added_20 rfl (lv_at hl 2 rfl) ?_
    refine lv_lload hx hb d_Di_added_21 (lv_at hl 0 rfl) ?_
    refine lv_null hx hb d_Di_added_23 ?_
    obtain ⟨v_25, v_27, v_29, v_31, F_v_12, c_26, c_28, c_30⟩ := TI_nds hT c_13
    refine hm_callPi (va_runV (As := [.ref d9, .long r_1, .null]) (b := v_12) (rest := []) ⟨hx, hb, hml, hown, hts⟩ (t_other0 l D t G ak av h τ n 0 v_12 d9 r_1  hn hT c_13 T_d9) ⟨cw9B 3 hts mw_455 mw_456 mw_132 rfl rfl (by decide +kernel) ⟨Nat.le_of_ble_eq_true rfl, Nat.le_of_ble_eq_true rfl⟩, hts _ mw_457, hts _ mw_458⟩ (hP_V (q := (R_Ns, F_Ns, 4)) kE_ok hE hK hH F_v_12 rfl) rfl rfl hl.1 rfl (lv_room (Nat.le_of_ble_eq_true rfl)) d_Di_added_24 ⟨Nat.le_of_ble_eq_true rfl, Nat.le_of_ble_eq_true rfl⟩) (fun r_32 h_33 H_34 hp_36  hH z_35 => ?_)
    have hz : s.heap.size ≤ H_34.size := Nat.le_trans hz z_35
    obtain ⟨c_37, rfl⟩ := hp_36
    refine lv_if_eq (tgt := 33) hx hb d_Di_added_27 (by decide) (fun hc_39 => ?_) (fun hc_39 => ?_)
    · skip
      have ic_40 : r_32.toInt = 0 := congrArg Int32.toInt hc_39
      refine lv_aload_n hx hb d_Di_added_33 rfl (lv_at hl 1 rfl) ?_
      refine hm_get (ci := 8) (v := .ref v_12) (C := R_Di) (T := F_Di) (N := 9) hx hb hts ig_Di hown hK hH F_x9 rfl 2 (by decide) (hts _ mw_443) (fun _ h9 => h9) rfl d_Di_added_34 ?_
      obtain ⟨g_41, F_v_25, c_42, c_43⟩ := TI_slo hT c_26
      have O_N : Nds t h v_12 v_25 v_27 v_29 v_31 g_41 := ⟨F_v_12, F_v_25⟩
      have hI0 := hT
      have T_P := c_13
      refine hm_callr (va_runV (As := []) (b := v_12) (rest := []) ⟨hx, hb, hml, hown, hts⟩ (t_append l D t G ak av h τ n 0 v_12  hn hT c_13) ⟨cw9B 0 hts mw_163 mw_459 mw_132 rfl rfl (by decide +kernel) ⟨Nat.le_of_ble_eq_true rfl, Nat.le_of_ble_eq_true rfl⟩, hts _ mw_165, hts _ mw_166⟩ (hP_V (q := (R_Ns, F_Ns, 4)) kE_ok hE hK hH F_v_12 rfl) rfl rfl hl.1 rfl (lv_room (Nat.le_of_ble_eq_true rfl)) d_Di_added_37 ⟨Nat.le_of_ble_eq_true rfl, Nat.le_of_ble_eq_true rfl⟩) hLo (fun r_44 h_45 H_46 locs hp_48 hH z_47 hLo => ?_)
      have hz : s.heap.size ≤ H_46.size := Nat.le_trans hz z_47
      have hT0 := hT
      obtain ⟨c_49, hT, kf_51, xp_50⟩ := hp_48
      have F_x9 : h_45 x9 = some (.inr (8, [.ref v_8, .ref v_10, .ref v_12, .ref v_14, va_rf v_16, .int v_18, .int v_19, .ref v_21, .ref v_23])) := kf_at kf_51 T_x9 (by decide) (tnc (by decide) tn0) (nmc (tne T_x9 c_13 (by decide)) nm0) F_x9
      have F_v_25 : h_45 v_25 = some (.inl ((t 4), 30, .inr (.inr (.inr (.inr g_41))))) := kf_at kf_51 c_26 (by decide) (tnc (by decide) tn0) (nmc (tne c_26 c_13 (by decide)) nm0) F_v_25
      have hkf : kf τ [(10, 0), (7, 0)] [] h h_45 := kf_tr hkf kf_51 (List.forall_mem_cons.mpr ⟨List.mem_cons_self, List.forall_mem_nil _⟩) (List.forall_mem_cons.mpr ⟨Or.inr (by rw [c_13]; exact (List.mem_cons_of_mem _ List.mem_cons_self)), List.forall_mem_nil _⟩)
      rcases xp_50 _ _ _ _ _ O_N with ⟨h81, h82, -⟩ | ⟨a8, h81, hlt8, hsl8, hP8, ⟨x8, y8, h83, h84⟩, hfr8⟩
      · skip
        subst h81
        have hTr : ∀ P, τ P = (7, 0) → TrP t h_45 P := by rw [← h82]; exact hTr
        refine lv_astoreN (lv' := [(7, .null), (5, .long r_1), (0, .ref x9), (1, .ref d9), (2, .int z9), (3, .long w9)]) hx hb d_Di_added_40 hl (by decide) rfl (fun ls hl => ?_)
        refine lv_aloadN hx hb d_Di_added_42 (lv_at hl 0 rfl) ?_
        refine lv_ifnonnullN hx hb d_Di_added_44 ?_
        refine lv_bipush (v := -3) hx hb d_Di_added_47 (by decide) ?_
        exact W.iret (v := (-3)) hx hb hr (fun t9 ht hW => ⟨(-3), h_45, rfl, ⟨hT, hkf, hTr⟩, by rw [ht]; exact hH, by rw [ht]; exact hz⟩) hLo d_Di_added_49
      · skip
        subst h81
        have T_a8 := c_49 a8 rfl
        refine lv_astore (lv' := [(7, .ref a8), (5, .long r_1), (0, .ref x9), (1, .ref d9), (2, .int z9), (3, .long w9)]) hx hb d_Di_added_40 hl (by decide) rfl (fun ls hl => ?_)
        refine lv_aload hx hb d_Di_added_42 (lv_at hl 0 rfl) ?_
        refine lv_ifnonnull (tgt := 50) hx hb d_Di_added_44 (by decide) ?_
        refine lv_aload hx hb d_Di_added_50 (lv_at hl 0 rfl) ?_
        refine lv_aload_n hx hb d_Di_added_52 rfl (lv_at hl 3 rfl) ?_
        refine lv_iload_n hx hb d_Di_added_53 rfl (lv_at hl 4 rfl) ?_
        refine lv_lload hx hb d_Di_added_54 (lv_at hl 1 rfl) ?_
        obtain ⟨v_52, v_53, v_55, v_57, v_58, v_60, v_61, v_62, v_64, v_65, v_66, F_a8, c_54, c_56, c_59, c_63⟩ := TI_node hT T_a8
        refine hm_callv (va_runV (As := [.ref d9, .int z9, .long r_1]) (b := a8) (rest := []) ⟨hx, hb, hml, hown, hts⟩ (t_become1 l D t G ak av h_45 τ n 0 a8 d9 z9 r_1  hn hT T_a8 T_d9 Z_z9) ⟨cw9B 3 hts mw_167 mw_460 mw_106 rfl rfl (by decide +kernel) ⟨Nat.le_of_ble_eq_true rfl, Nat.le_of_ble_eq_true rfl⟩, hts _ mw_169, hts _ mw_170⟩ (hP_V (q := (R_No, F_No, 11)) kE_ok hE hK hH F_a8 rfl) rfl rfl hl.1 rfl (lv_room (Nat.le_of_ble_eq_true rfl)) d_Di_added_56 ⟨Nat.le_of_ble_eq_true rfl, Nat.le_of_ble_eq_true rfl⟩) hLo (fun h_67 H_68 locs hp_70 hH z_69 hLo => ?_)
        have hz : s.heap.size ≤ H_68.size := Nat.le_trans hz z_69
        have hT0 := hT
        obtain ⟨hT, kf_72, xp_71⟩ := hp_70
        have F_x9 : h_67 x9 = some (.inr (8, [.ref v_8, .ref v_10, .ref v_12, .ref v_14, va_rf v_16, .int v_18, .int v_19, .ref v_21, .ref v_23])) := kf_at kf_72 T_x9 (by decide) tn0 (nmc (tne T_x9 T_a8 (by decide)) nm0) F_x9
        have F_v_25 : h_67 v_25 = some (.inl ((t 4), 30, .inr (.inr (.inr (.inr g_41))))) := kf_at kf_72 c_26 (by decide) tn0 (nmc (tne c_26 T_a8 (by decide)) nm0) F_v_25
        have hkf : kf τ [(10, 0), (7, 0)] [] h h_67 := kf_tr hkf kf_72 (List.forall_mem_nil _) (List.forall_mem_cons.mpr ⟨Or.inr (by rw [T_a8]; exact List.mem_cons_self), List.forall_mem_nil _⟩)
        have hTr : ∀ P, τ P = (7, 0) → TrP t h_67 P := fun P hP => by
          obtain rfl := hU v_12 P T_P hP
          exact TrP_add hI0 T_P (hTr _ T_P) O_N hlt8 hsl8 hP8 T_a8 hfr8 (hlv _ T_P) kf_72 (xp_71 _ _ h84)
        refine lv_aload hx hb d_Di_added_59 (lv_at hl 0 rfl) ?_
        obtain ⟨v_73, v_74, v_76, v_78, v_79, v_81, v_82, v_83, v_85, v_86, v_87, F_a8, c_75, c_77, c_80, c_84⟩ := TI_node hT T_a8
        refine hm_get (ci := 1) (v := .int v_73) (C := R_No) (T := F_No) (N := 11) hx hb hts ig_No hown hK hH F_a8 rfl 0 (by decide) (hts _ mw_461) (fun _ h9 => h9) rfl d_Di_added_61 ?_
        exact W.iret (v := v_73) hx hb hr (fun t9 ht hW => ⟨v_73, h_67, rfl, ⟨hT, hkf, hTr⟩, by rw [ht]; exact hH, by rw [ht]; exact hz⟩) hLo d_Di_added_64
    · skip
      refine lv_bipush (v := -5) hx hb d_Di_added_30 (by decide) ?_
      exact W.iret (v := (-5)) hx hb hr (fun t9 ht hW => ⟨(-5), h, rfl, ⟨hT, hkf, hTr⟩, by rw [ht]; exact hH, by rw [ht]; exact hz⟩) hLo d_Di_added_32
  · skip
    refine lv_bipush (v := -2) hx hb d_Di_added_13 (by decide) ?_
    exact W.iret (v := (-2)) hx hb hr (fun t9 ht hW => ⟨(-2), h, rfl, ⟨hT, hkf, hTr⟩, by rw [ht]; exact hH, by rw [ht]; exact hz⟩) hLo d_Di_added_15
