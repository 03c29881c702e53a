set_option maxRecDepth 100000 in
theorem mw_507 : Cond.methodLink R_Ns 39 y_Ns_becomeRootAlone ∈ lw_g := lw_gin (List.mem_append_right _ (List.mem_of_getElem? (i := 728) rfl)) (by decide +kernel)
set_option maxRecDepth 100000 in
theorem mw_508 : Cond.code y_No_adopt b_No_adopt 2 none ∈ lw_g := lw_gin (List.mem_append_right _ (List.mem_of_getElem? (i := 732) rfl)) (by decide +kernel)
set_option maxRecDepth 100000 in
theorem mw_509 : Cond.methodLink R_Ns 42 y_No_adopt ∈ lw_g := lw_gin (List.mem_append_right _ (List.mem_of_getElem? (i := 729) rfl)) (by decide +kernel)
set_option maxRecDepth 100000 in
theorem mw_510 : Cond.instanceMethod y_No_adopt ∈ lw_g := lw_gin (List.mem_append_right _ (List.mem_of_getElem? (i := 730) rfl)) (by decide +kernel)
set_option maxRecDepth 100000 in
theorem mw_511 : Cond.selects R_No y_No_adopt y_No_adopt ∈ lw_g := lw_gin (List.mem_append_right _ (List.mem_of_getElem? (i := 731) rfl)) (by decide +kernel)
set_option maxRecDepth 100000 in
theorem mw_512 : Cond.code y_No_parentNumber b_No_parentNumber 1 (some .int) ∈ lw_g := lw_gin (List.mem_append_right _ (List.mem_of_getElem? (i := 737) rfl)) (by decide +kernel)
set_option maxRecDepth 100000 in
theorem mw_513 : Cond.methodLink R_Ns 46 y_No_parentNumber ∈ lw_g := lw_gin (List.mem_append_right _ (List.mem_of_getElem? (i := 734) rfl)) (by decide +kernel)
set_option maxRecDepth 100000 in
theorem mw_514 : Cond.instanceMethod y_No_parentNumber ∈ lw_g := lw_gin (List.mem_append_right _ (List.mem_of_getElem? (i := 735) rfl)) (by decide +kernel)
set_option maxRecDepth 100000 in
theorem mw_515 : Cond.selects R_No y_No_parentNumber y_No_parentNumber ∈ lw_g := lw_gin (List.mem_append_right _ (List.mem_of_getElem? (i := 736) rfl)) (by decide +kernel)
theorem d_Ns_adopt_0 : decode b_Ns_adopt 0 = .ok (.aload_n 0, 1) := by decide +kernel
theorem d_Ns_adopt_1 : decode b_Ns_adopt 1 = .ok (.invokevirtual 39, 3) := by decide +kernel
theorem d_Ns_adopt_4 : decode b_Ns_adopt 4 = .ok (.aload_n 0, 1) := by decide +kernel
theorem d_Ns_adopt_5 : decode b_Ns_adopt 5 = .ok (.getfield 11, 3) := by decide +kernel
theorem d_Ns_adopt_8 : decode b_Ns_adopt 8 = .ok (.iconst 0, 1) := by decide +kernel
theorem d_Ns_adopt_9 : decode b_Ns_adopt 9 = .ok (.aaload, 1) := by decide +kernel
theorem d_Ns_adopt_10 : decode b_Ns_adopt 10 = .ok (.aload_n 1, 1) := by decide +kernel
theorem d_Ns_adopt_11 : decode b_Ns_adopt 11 = .ok (.getfield 11, 3) := by decide +kernel
theorem d_Ns_adopt_14 : decode b_Ns_adopt 14 = .ok (.iconst 0, 1) := by decide +kernel
theorem d_Ns_adopt_15 : decode b_Ns_adopt 15 = .ok (.aaload, 1) := by decide +kernel
theorem d_Ns_adopt_16 : decode b_Ns_adopt 16 = .ok (.invokevirtual 42, 3) := by decide +kernel
theorem d_Ns_adopt_19 : decode b_Ns_adopt 19 = .ok (.iconst 1, 1) := by decide +kernel
theorem d_Ns_adopt_20 : decode b_Ns_adopt 20 = .ok (.istore_n 2, 1) := by decide +kernel
theorem d_Ns_adopt_21 : decode b_Ns_adopt 21 = .ok (.iload_n 2, 1) := by decide +kernel
theorem d_Ns_adopt_22 : decode b_Ns_adopt 22 = .ok (.aload_n 1, 1) := by decide +kernel
theorem d_Ns_adopt_23 : decode b_Ns_adopt 23 = .ok (.getfield 20, 3) := by decide +kernel
theorem d_Ns_adopt_26 : decode b_Ns_adopt 26 = .ok (.if_icmp .ge 46, 3) := by decide +kernel
theorem d_Ns_adopt_72 : decode b_Ns_adopt 72 = .ok (.return_, 1) := by decide +kernel
theorem d_Ns_adopt_29 : decode b_Ns_adopt 29 = .ok (.aload_n 0, 1) := by decide +kernel
theorem d_Ns_adopt_30 : decode b_Ns_adopt 30 = .ok (.invokevirtual 28, 3) := by decide +kernel
theorem d_Ns_adopt_33 : decode b_Ns_adopt 33 = .ok (.astore_n 3, 1) := by decide +kernel
theorem d_Ns_adopt_34 : decode b_Ns_adopt 34 = .ok (.aload_n 3, 1) := by decide +kernel
theorem d_Ns_adopt_35 : decode b_Ns_adopt 35 = .ok (.ifnonnull 4, 3) := by decide +kernel
theorem d_Ns_adopt_39 : decode b_Ns_adopt 39 = .ok (.aload_n 3, 1) := by decide +kernel
theorem d_Ns_adopt_40 : decode b_Ns_adopt 40 = .ok (.aload_n 1, 1) := by decide +kernel
theorem d_Ns_adopt_41 : decode b_Ns_adopt 41 = .ok (.getfield 11, 3) := by decide +kernel
theorem d_Ns_adopt_44 : decode b_Ns_adopt 44 = .ok (.iload_n 2, 1) := by decide +kernel
theorem d_Ns_adopt_45 : decode b_Ns_adopt 45 = .ok (.aaload, 1) := by decide +kernel
theorem d_Ns_adopt_46 : decode b_Ns_adopt 46 = .ok (.invokevirtual 42, 3) := by decide +kernel
theorem d_Ns_adopt_49 : decode b_Ns_adopt 49 = .ok (.aload_n 3, 1) := by decide +kernel
theorem d_Ns_adopt_50 : decode b_Ns_adopt 50 = .ok (.aload_n 0, 1) := by decide +kernel
theorem d_Ns_adopt_51 : decode b_Ns_adopt 51 = .ok (.aload_n 1, 1) := by decide +kernel
theorem d_Ns_adopt_52 : decode b_Ns_adopt 52 = .ok (.getfield 11, 3) := by decide +kernel
theorem d_Ns_adopt_55 : decode b_Ns_adopt 55 = .ok (.iload_n 2, 1) := by decide +kernel
theorem d_Ns_adopt_56 : decode b_Ns_adopt 56 = .ok (.aaload, 1) := by decide +kernel
theorem d_Ns_adopt_57 : decode b_Ns_adopt 57 = .ok (.invokevirtual 46, 3) := by decide +kernel
theorem d_Ns_adopt_60 : decode b_Ns_adopt 60 = .ok (.invokevirtual 50, 3) := by decide +kernel
theorem d_Ns_adopt_63 : decode b_Ns_adopt 63 = .ok (.putfield 54, 3) := by decide +kernel
theorem d_Ns_adopt_66 : decode b_Ns_adopt 66 = .ok (.iinc 2 1, 3) := by decide +kernel
theorem d_Ns_adopt_69 : decode b_Ns_adopt 69 = .ok (.goto (-48), 3) := by decide +kernel
theorem rdN_kf {τ : tM} {f c : Nat} {h h' : hM} {sl : Nat → Option Nat} {S : List (Nat × Nat)} {M : List Nat} (hn : nodA τ f sl) (hc : c ≤ 30) (hR : rdN h sl c) (hk : kf τ S M h h') (hS : (10, f) ∉ S) (hM : ∀ a ∈ M, τ a ≠ (10, f)) : rdN h' sl c := rdN_knp hn hc hR (knp_kf knp_rf hk hS hM)
/-- behind append the nodes before stand as they stood -/
theorem rdN_app {τ : tM} {t : Nat → ClassId} {n f : Nat} {h h' : hM} {P s o a : Nat} {c nn : Int32} {sl : Nat → Option Nat} (hI : TI τ t n h) (hP : τ P = (7, f)) (hN : Nds t h P s o c nn sl) (h0 : 0 ≤ c.toInt) (hc : c.toInt < 30) (hR : rdN h sl c.toInt.toNat) (hsl : sl c.toNatClampNeg = some a) (hfr : ∀ b, (τ b).1 ≠ 0 → b ≠ a → b ≠ P → h' b = h b) : rdN h' sl c.toInt.toNat := by
  obtain ⟨g1, g2⟩ := hN
  obtain ⟨t1, -, -⟩ := TJ_nds hI hP g1
  obtain ⟨t3, t4⟩ := TJ_slo hI t1 g2
  refine rdN_same hR (fun b hb => ?_)
  have hne := live_ne t4 (by omega) (show sl c.toInt.toNat = some a from hsl) hb
  obtain ⟨i, hi, hs⟩ := hb
  obtain ⟨b', e1, e2⟩ := t3 i (by omega)
  obtain rfl : b' = b := Option.some.inj (e1.symm.trans hs)
  have := hfr b' (by rw [e2]; exact Nat.succ_ne_zero _) hne (tne e2 hP (by decide))
  simp [nod, this]
/-- one node more, its parent told -/
theorem rdN_more {τ : tM} {t : Nat → ClassId} {n f : Nat} {h h' : hM} {s a q j : Nat} {c d : Int32} {sl : Nat → Option Nat} {e : va_E} (hI : TI τ t n h) (hs : τ s = (8, f)) (F_s : h s = some (.inl (t 4, 30, .inr (.inr (.inr (.inr sl)))))) (h0 : 0 ≤ c.toInt) (hc : c.toInt < 30) (hd : d.toInt = c.toInt + 1) (hR : rdN h sl c.toInt.toNat) (hsl : sl c.toNatClampNeg = some a) (he : h' = hu h a e) (hno : nod h' a = some (.int c, .ref q)) (hj : j < c.toInt.toNat) (hq : sl j = some q) : rdN h' sl d.toInt.toNat := by
  obtain ⟨t3, t4⟩ := TJ_slo hI hs F_s
  rw [show d.toInt.toNat = c.toInt.toNat + 1 by omega]
  have hsl' : sl c.toInt.toNat = some a := hsl
  refine rdN_add hR hsl' (by rw [← i_nI h0]; exact hno) (Or.inr ⟨j, q, hj, hq, rfl⟩) (fun b hb => ?_)
  have hne := live_ne t4 (by omega) hsl' hb
  rw [he]
  simp only [nod]
  rw [hu_n hne]
theorem TrP_rt {t : Nat → ClassId} {h h' : hM} {P s o : Nat} {c nn : Int32} {sl : Nat → Option Nat} (hN : Nds t h P s o c nn sl) (hr : rtP t h h' P) : TrP t h' P := by
  obtain ⟨a, h1, h2, h3⟩ := hr _ _ _ _ _ hN
  exact ⟨s, o, 1, 1, sl, h2, by decide, by decide, rdN_Tr (rtP_rd (t := t) (P := P) (s := s) (o := o) h1 h3)⟩

set_option maxHeartbeats 4000000 in
set_option maxRecDepth 100000 in
theorem t_nsadopt (l : Launch) (D : va_G) (t : Nat → ClassId) (G : hG) (ak av : Nat → Nat) (h : hM) (τ : tM) (n : Nat) (P9 : Nat) (R9 : Nat) (hn : n ≤ 200) (hT : TI τ t n h) (T_P9 : τ P9 = (7, 0)) (T_R9 : τ R9 = (7, 1)) (hRN : RNP t h R9) : Met l y_Ns_adopt (.code y_Ns_adopt b_Ns_adopt 4 none :: lw_g) { frames := 3, cells := 0, slots := 0, locals := 68 } (hP (kE D t G ak av) D vwCl G h [.ref P9, .ref R9]) (hQv D vwCl G (fun h' => TI τ t n h' ∧ kf τ [(10, 0)] [P9] h h' ∧ TrP t h' P9)) 0 0 G.P := by
  refine Met.ofW (cc := b_Ns_adopt) (maxL := 4) (ret := none) (by decide) rfl ?_
  intro p e s m args below meth c s₁ Bd hml hv
  obtain ⟨ha, hE, hH⟩ := hv
  have hx := Bd.exec
  have hb := Bd.bytes
  have hr := Bd.returns
  have hts : ∀ w ∈ lw_g, w.before args s = true := fun w hw => atoms_spec (ws := (.code y_Ns_adopt b_Ns_adopt 4 none :: lw_g)) Bd.pre w (List.mem_cons_of_mem _ hw)
  have hown : s.vm.findClass R_Ns = some m.cls := findClass_of_methodNamed Bd.named
  have hlocks := Bd.notSynchronized
  have hK := hE.1
  have hH0 := hH
  have hLo : hLc G.P [] := hLc_nil
  have hz : s.heap.size ≤ s.heap.size := Nat.le_refl _
  have hl := lv_entry [.ref P9, .ref R9] (n := 4) (Nat.le_of_ble_eq_true rfl)
  rw [show entryFrame m args 4 = F0 m 0 ((lg_sl [.ref P9, .ref R9] ++ List.replicate (4 - (lg_sl [.ref P9, .ref R9]).length) Slot.unset).toArray) [] from (by rw [ha]; exact lg_entry_eq m [.ref P9, .ref R9] 4)]
  generalize (lg_sl [.ref P9, .ref R9] ++ List.replicate (4 - (lg_sl [.ref P9, .ref R9]).length) Slot.unset).toArray = ls at hl ⊢
  have hl : lv_has ls 4 [(0, .ref P9), (1, .ref R9)] := hl
  have hkf : kf τ [(10, 0)] [P9] h h := kf_rf
  obtain ⟨v_1, v_3, v_5, v_7, F_P9, c_2, c_4, c_6⟩ := TI_nds hT T_P9
  obtain ⟨g_8, F_v_1, c_9, c_10⟩ := TI_slo hT c_2
  obtain ⟨s7, o7, c7, sl7, ⟨F_R9, F_s7⟩, hc1, hc30, hrd7⟩ := hRN
  obtain ⟨Tn0, Tn1, -⟩ := TJ_nds hT T_R9 F_R9
  obtain ⟨Tn2, Tn3⟩ := TJ_slo hT Tn0 F_s7
  have hcI : (nI c7).toInt = c7 := nI_toInt (by omega)
  have O_N : Nds t h P9 v_1 v_3 v_5 v_7 g_8 := ⟨F_P9, F_v_1⟩
  have hnA := c_9
  refine lv_aload_n hx hb d_Ns_adopt_0 rfl (lv_at hl 0 rfl) ?_
  refine hm_callv (va_runV (As := []) (b := P9) (rest := []) ⟨hx, hb, hml, hown, hts⟩ (t_rootAlone l D t G ak av h τ n 0 P9  hn hT T_P9) ⟨cw9B 0 hts mw_405 mw_507 mw_132 rfl rfl (by decide +kernel) ⟨Nat.le_of_ble_eq_true rfl, Nat.le_of_ble_eq_true rfl⟩, hts _ mw_407, hts _ mw_408⟩ (hP_V (q := (R_Ns, F_Ns, 4)) kE_ok hE hK hH F_P9 rfl) rfl rfl hl.1 rfl (lv_room (Nat.le_of_ble_eq_true rfl)) d_Ns_adopt_1 ⟨Nat.le_of_ble_eq_true rfl, Nat.le_of_ble_eq_true rfl⟩) hLo (fun h_11 H_12 locs hp_14 hH z_13 hLo => ?_)
  have hz : s.heap.size ≤ H_12.size := Nat.le_trans hz z_13
  have hT0 := hT
  obtain ⟨hT, kf_16, xp_15⟩ := hp_14
  have F_v_1 : h_11 v_1 = some (.inl ((t 4), 30, .inr (.inr (.inr (.inr g_8))))) := kf_at kf_16 c_2 (by decide) (tnc (by decide) tn0) (nmc (tne c_2 T_P9 (by decide)) nm0) F_v_1
  have F_R9 : h_11 R9 = some (.inr (2, [.ref s7, .ref o7, .int (nI c7), .int (nI c7)])) := kf_at kf_16 T_R9 (by decide) (tnc (by decide) tn0) (nmc (tneF T_R9 T_P9 (by decide)) nm0) F_R9
  have F_s7 : h_11 s7 = some (.inl ((t 4), 30, .inr (.inr (.inr (.inr sl7))))) := kf_at kf_16 Tn0 (by decide) (tnc (by decide) tn0) (nmc (tne Tn0 T_P9 (by decide)) nm0) F_s7
  have hkf : kf τ [(10, 0)] [P9] h h_11 := kf_tr hkf kf_16 (List.forall_mem_cons.mpr ⟨List.mem_cons_self, List.forall_mem_nil _⟩) (List.forall_mem_cons.mpr ⟨Or.inl (by simp), List.forall_mem_nil _⟩)
  obtain ⟨a7, ha7, ⟨F_P9, F_x7⟩, hz7⟩ := xp_15 _ _ _ _ _ O_N
  have hrd : rdN h_11 g_8 1 := rtP_rd (t := t) (P := P9) (s := v_1) (o := v_3) ha7 hz7
  have hrd7 : rdN h_11 sl7 c7 := rdN_kf Tn2 hc30 hrd7 kf_16 (by simp) (List.forall_mem_cons.mpr ⟨(fun z => by have := z.symm.trans T_P9; simp at this), List.forall_mem_nil _⟩)
  refine lv_aload_n hx hb d_Ns_adopt_4 rfl (lv_at hl 0 rfl) ?_
  refine hm_get (ci := 2) (v := .ref v_1) (C := R_Ns) (T := F_Ns) (N := 4) hx hb hts ig_Ns hown hK hH F_P9 rfl 0 (by decide) (hts _ mw_129) (fun _ h9 => h9) rfl d_Ns_adopt_5 ?_
  refine lv_iconst (v := 0) hx hb d_Ns_adopt_8 (by decide) ?_
  obtain ⟨a_17, e_18, T_19⟩ := c_9 ((0 : Int32).toNatClampNeg) (by decide)
  refine hm_aald (v := .ref a_17) hx hb hK hH 4 F_v_1 (C := R_No) rfl (iIn (by decide) (by decide)) (by rw [e_18]; rfl) d_Ns_adopt_9 ?_
  refine lv_aload_n hx hb d_Ns_adopt_10 rfl (lv_at hl 1 rfl) ?_
  refine hm_get (ci := 2) (v := .ref s7) (C := R_Ns) (T := F_Ns) (N := 4) hx hb hts ig_Ns hown hK hH F_R9 rfl 0 (by decide) (hts _ mw_129) (fun _ h9 => h9) rfl d_Ns_adopt_11 ?_
  refine lv_iconst (v := 0) hx hb d_Ns_adopt_14 (by decide) ?_
  obtain ⟨a_20, e_21, T_22⟩ := Tn2 ((0 : Int32).toNatClampNeg) (by decide)
  refine hm_aald (v := .ref a_20) hx hb hK hH 4 F_s7 (C := R_No) rfl (iIn (by decide) (by decide)) (by rw [e_21]; rfl) d_Ns_adopt_15 ?_
  obtain ⟨v_23, v_24, v_26, v_28, v_29, v_31, v_32, v_33, v_35, v_36, v_37, F_a_17, c_25, c_27, c_30, c_34⟩ := TI_node hT T_19
  refine hm_callv (va_runV (As := [.ref a_20]) (b := a_17) (rest := []) ⟨hx, hb, hml, hown, hts⟩ (t_nadopt l D t G ak av h_11 τ n 0 1 a_17 a_20  hn hT T_19 T_22) ⟨cw9B 1 hts mw_508 mw_509 mw_106 rfl rfl (by decide +kernel) ⟨Nat.le_of_ble_eq_true rfl, Nat.le_of_ble_eq_true rfl⟩, hts _ mw_510, hts _ mw_511⟩ (hP_V (q := (R_No, F_No, 11)) kE_ok hE hK hH F_a_17 rfl) rfl rfl hl.1 rfl (lv_room (Nat.le_of_ble_eq_true rfl)) d_Ns_adopt_16 ⟨Nat.le_of_ble_eq_true rfl, Nat.le_of_ble_eq_true rfl⟩) hLo (fun h_38 H_39 locs hp_41 hH z_40 hLo => ?_)
  have hz : s.heap.size ≤ H_39.size := Nat.le_trans hz z_40
  have hT0 := hT
  obtain ⟨hT, kf_43, xk_44⟩ := hp_41
  have F_v_1 : h_38 v_1 = some (.inl ((t 4), 30, .inr (.inr (.inr (.inr g_8))))) := kf_at kf_43 c_2 (by decide) tn0 (nmc (tne c_2 T_19 (by decide)) nm0) F_v_1
  have F_R9 : h_38 R9 = some (.inr (2, [.ref s7, .ref o7, .int (nI c7), .int (nI c7)])) := kf_at kf_43 T_R9 (by decide) tn0 (nmc (tne T_R9 T_19 (by decide)) nm0) F_R9
  have F_s7 : h_38 s7 = some (.inl ((t 4), 30, .inr (.inr (.inr (.inr sl7))))) := kf_at kf_43 Tn0 (by decide) tn0 (nmc (tne Tn0 T_19 (by decide)) nm0) F_s7
  have F_P9 : h_38 P9 = some (.inr (2, [.ref v_1, .ref v_3, .int 1, .int 1])) := kf_at kf_43 T_P9 (by decide) tn0 (nmc (tne T_P9 T_19 (by decide)) nm0) F_P9
  have hkf : kf τ [(10, 0)] [P9] h h_38 := kf_tr hkf kf_43 (List.forall_mem_nil _) (List.forall_mem_cons.mpr ⟨Or.inr (by rw [T_19]; exact List.mem_cons_self), List.forall_mem_nil _⟩)
  have hrd : rdN h_38 g_8 1 := rdN_knp hnA (by decide) hrd xk_44
  have hrd7 : rdN h_38 sl7 c7 := rdN_kf Tn2 hc30 hrd7 kf_43 (by simp) (List.forall_mem_cons.mpr ⟨(fun z => by have := z.symm.trans T_19; simp at this), List.forall_mem_nil _⟩)
  refine lv_iconst (v := 1) hx hb d_Ns_adopt_19 (by decide) ?_
  refine lv_istore_n (lv' := [(2, .int 1), (0, .ref P9), (1, .ref R9)]) hx hb d_Ns_adopt_20 rfl hl (by decide) rfl (fun ls hl => ?_)
  refine hm_loop (fun k21 ls H locs hh21 => ∃ (i9 : Int32), k21 = (c7 - i9.toInt).toNat ∧ lv_has ls 4 [(0, .ref P9), (1, .ref R9), (2, .int i9)] ∧ hm D vwCl G hh21 H ∧ s.heap.size ≤ H.size ∧ hLc G.P locs ∧ (TI τ t n hh21) ∧ (kf τ [(10, 0)] [P9] h hh21) ∧ (hh21 P9 = some (.inr (2, [.ref v_1, .ref v_3, .int i9, .int i9]))) ∧ (hh21 v_1 = some (.inl ((t 4), 30, .inr (.inr (.inr (.inr g_8)))))) ∧ (hh21 R9 = some (.inr (2, [.ref s7, .ref o7, .int (nI c7), .int (nI c7)]))) ∧ (hh21 s7 = some (.inl ((t 4), 30, .inr (.inr (.inr (.inr sl7)))))) ∧ (rdN hh21 g_8 i9.toInt.toNat) ∧ (rdN hh21 sl7 c7) ∧ (1 ≤ i9.toInt ∧ i9.toInt ≤ c7)) ?_ (hh := h_38) ⟨1, rfl, (lv_sub hl [1, 2, 0] rfl), hH, hz, hLo, hT, hkf, F_P9, F_v_1, F_R9, F_s7, hrd, hrd7, ⟨by decide, by rw [show (1 : Int32).toInt = 1 from rfl]; omega⟩⟩
  rintro k21 ls H locs hh21 ⟨i9, hk21, hl, hH, hz, hLo, hT, hkf, F_P9, F_v_1, F_R9, F_s7, hrd, hrd7, I1⟩ ih21
  have O_N : Nds t hh21 P9 v_1 v_3 i9 i9 g_8 := ⟨F_P9, F_v_1⟩
  have hI0 := hT
  refine lv_iload_n hx hb d_Ns_adopt_21 rfl (lv_at hl 2 rfl) ?_
  refine lv_aload_n hx hb d_Ns_adopt_22 rfl (lv_at hl 1 rfl) ?_
  refine hm_get (ci := 2) (v := .int (nI c7)) (C := R_Ns) (T := F_Ns) (N := 4) hx hb hts ig_Ns hown hK hH F_R9 rfl 2 (by decide) (hts _ mw_128) (fun _ h9 => h9) rfl d_Ns_adopt_23 ?_
  refine lv_icmp_ge (tgt := 72) hx hb d_Ns_adopt_26 (by decide) (fun hc_45 => ?_) (fun hc_45 => ?_)
  · skip
    have ic_46 : (nI c7).toInt ≤ i9.toInt := iLe hc_45
    exact W.vret hx hb hr (fun t9 ht hW => ⟨hh21, rfl, ⟨hT, hkf, ⟨_, _, _, _, _, ⟨F_P9, F_v_1⟩, by omega, by omega, rdN_Tr hrd⟩⟩, by rw [ht]; exact hH, by rw [ht]; exact hz⟩) hLo d_Ns_adopt_72
  · skip
    have ic_47 : i9.toInt < (nI c7).toInt := iNe hc_45
    have iu_48 : (nI c7).toInt < 2147483648 := iUp _
    refine lv_aload_n hx hb d_Ns_adopt_29 rfl (lv_at hl 0 rfl) ?_
    refine hm_callr (va_runV (As := []) (b := P9) (rest := []) ⟨hx, hb, hml, hown, hts⟩ (t_append l D t G ak av hh21 τ n 0 P9  hn hT T_P9) ⟨cw9B 0 hts mw_163 mw_164 mw_132 rfl rfl (by decide +kernel) ⟨Nat.le_of_ble_eq_true rfl, Nat.le_of_ble_eq_true rfl⟩, hts _ mw_165, hts _ mw_166⟩ (hP_V (q := (R_Ns, F_Ns, 4)) kE_ok hE hK hH F_P9 rfl) rfl rfl hl.1 rfl (lv_room (Nat.le_of_ble_eq_true rfl)) d_Ns_adopt_30 ⟨Nat.le_of_ble_eq_true rfl, Nat.le_of_ble_eq_true rfl⟩) hLo (fun r_49 h_50 H_51 locs hp_53 hH z_52 hLo => ?_)
    have hz : s.heap.size ≤ H_51.size := Nat.le_trans hz z_52
    have hT0 := hT
    obtain ⟨c_54, hT, kf_56, xp_55⟩ := hp_53
    have F_R9 : h_50 R9 = some (.inr (2, [.ref s7, .ref o7, .int (nI c7), .int (nI c7)])) := kf_at kf_56 T_R9 (by decide) (tnc (by decide) tn0) (nmc (tneF T_R9 T_P9 (by decide)) nm0) F_R9
    have F_s7 : h_50 s7 = some (.inl ((t 4), 30, .inr (.inr (.inr (.inr sl7))))) := kf_at kf_56 Tn0 (by decide) (tnc (by decide) tn0) (nmc (tne Tn0 T_P9 (by decide)) nm0) F_s7
    have F_v_1 : h_50 v_1 = some (.inl ((t 4), 30, .inr (.inr (.inr (.inr g_8))))) := kf_at kf_56 c_2 (by decide) (tnc (by decide) tn0) (nmc (tne c_2 T_P9 (by decide)) nm0) F_v_1
    have hkf : kf τ [(10, 0)] [P9] h h_50 := kf_tr hkf kf_56 (List.forall_mem_cons.mpr ⟨List.mem_cons_self, List.forall_mem_nil _⟩) (List.forall_mem_cons.mpr ⟨Or.inl (by simp), List.forall_mem_nil _⟩)
    rcases xp_55 _ _ _ _ _ O_N with ⟨-, -, hbad⟩ | ⟨a8, h81, hlt8, hsl8, hP8, ⟨x8, y8, h83, h84⟩, hfr8⟩
    · exact absurd hbad (by omega)
    subst h81
    have T_a8 := c_54 a8 rfl
    have F_P9 : h_50 P9 = some (.inr (2, [.ref v_1, .ref v_3, .int (i9 + 1), .int (i9 + 1)])) := hP8
    have hrd : rdN h_50 g_8 i9.toInt.toNat := rdN_app hI0 T_P9 O_N (by omega) hlt8 hrd hsl8 hfr8
    have hrd7 : rdN h_50 sl7 c7 := rdN_kf Tn2 hc30 hrd7 kf_56 (by simp) (List.forall_mem_cons.mpr ⟨(fun z => by have := z.symm.trans T_P9; simp at this), List.forall_mem_nil _⟩)
    refine lv_astore_n (lv' := [(3, .ref a8), (0, .ref P9), (1, .ref R9), (2, .int i9)]) hx hb d_Ns_adopt_33 rfl hl (by decide) rfl (fun ls hl => ?_)
    refine lv_aload_n hx hb d_Ns_adopt_34 rfl (lv_at hl 0 rfl) ?_
    refine lv_ifnonnull (tgt := 39) hx hb d_Ns_adopt_35 (by decide) ?_
    refine lv_aload_n hx hb d_Ns_adopt_39 rfl (lv_at hl 0 rfl) ?_
    refine lv_aload_n hx hb d_Ns_adopt_40 rfl (lv_at hl 2 rfl) ?_
    refine hm_get (ci := 2) (v := .ref s7) (C := R_Ns) (T := F_Ns) (N := 4) hx hb hts ig_Ns hown hK hH F_R9 rfl 0 (by decide) (hts _ mw_129) (fun _ h9 => h9) rfl d_Ns_adopt_41 ?_
    refine lv_iload_n hx hb d_Ns_adopt_44 rfl (lv_at hl 3 rfl) ?_
    obtain ⟨a_57, e_58, T_59⟩ := Tn2 i9.toNatClampNeg (iCl (by omega) (by omega))
    refine hm_aald (v := .ref a_57) hx hb hK hH 4 F_s7 (C := R_No) rfl (iIn (by omega) (by omega)) (by rw [e_58]; rfl) d_Ns_adopt_45 ?_
    obtain ⟨v_60, v_61, v_63, v_65, v_66, v_68, v_69, v_70, v_72, v_73, v_74, F_a8, c_62, c_64, c_67, c_71⟩ := TI_node hT T_a8
    refine hm_callv (va_runV (As := [.ref a_57]) (b := a8) (rest := []) ⟨hx, hb, hml, hown, hts⟩ (t_nadopt l D t G ak av h_50 τ n 0 1 a8 a_57  hn hT T_a8 T_59) ⟨cw9B 1 hts mw_508 mw_509 mw_106 rfl rfl (by decide +kernel) ⟨Nat.le_of_ble_eq_true rfl, Nat.le_of_ble_eq_true rfl⟩, hts _ mw_510, hts _ mw_511⟩ (hP_V (q := (R_No, F_No, 11)) kE_ok hE hK hH F_a8 rfl) rfl rfl hl.1 rfl (lv_room (Nat.le_of_ble_eq_true rfl)) d_Ns_adopt_46 ⟨Nat.le_of_ble_eq_true rfl, Nat.le_of_ble_eq_true rfl⟩) hLo (fun h_75 H_76 locs hp_78 hH z_77 hLo => ?_)
    have hz : s.heap.size ≤ H_76.size := Nat.le_trans hz z_77
    have hT0 := hT
    obtain ⟨hT, kf_80, xk_81⟩ := hp_78
    have F_R9 : h_75 R9 = some (.inr (2, [.ref s7, .ref o7, .int (nI c7), .int (nI c7)])) := kf_at kf_80 T_R9 (by decide) tn0 (nmc (tne T_R9 T_a8 (by decide)) nm0) F_R9
    have F_s7 : h_75 s7 = some (.inl ((t 4), 30, .inr (.inr (.inr (.inr sl7))))) := kf_at kf_80 Tn0 (by decide) tn0 (nmc (tne Tn0 T_a8 (by decide)) nm0) F_s7
    have F_v_1 : h_75 v_1 = some (.inl ((t 4), 30, .inr (.inr (.inr (.inr g_8))))) := kf_at kf_80 c_2 (by decide) tn0 (nmc (tne c_2 T_a8 (by decide)) nm0) F_v_1
    have F_P9 : h_75 P9 = some (.inr (2, [.ref v_1, .ref v_3, .int (i9 + 1), .int (i9 + 1)])) := kf_at kf_80 T_P9 (by decide) tn0 (nmc (tne T_P9 T_a8 (by decide)) nm0) F_P9
    have hkf : kf τ [(10, 0)] [P9] h h_75 := kf_tr hkf kf_80 (List.forall_mem_nil _) (List.forall_mem_cons.mpr ⟨Or.inr (by rw [T_a8]; exact List.mem_cons_self), List.forall_mem_nil _⟩)
    have hrd : rdN h_75 g_8 i9.toInt.toNat := rdN_knp hnA (by omega) hrd xk_81
    have hrd7 : rdN h_75 sl7 c7 := rdN_kf Tn2 hc30 hrd7 kf_80 (by simp) (List.forall_mem_cons.mpr ⟨(fun z => by have := z.symm.trans T_a8; simp at this), List.forall_mem_nil _⟩)
    have h84 : nod h_75 a8 = some (.int i9, y8) := by rw [xk_81 a8 T_a8]; exact h84
    refine lv_aload_n hx hb d_Ns_adopt_49 rfl (lv_at hl 0 rfl) ?_
    refine lv_aload_n hx hb d_Ns_adopt_50 rfl (lv_at hl 1 rfl) ?_
    refine lv_aload_n hx hb d_Ns_adopt_51 rfl (lv_at hl 2 rfl) ?_
    refine hm_get (ci := 2) (v := .ref s7) (C := R_Ns) (T := F_Ns) (N := 4) hx hb hts ig_Ns hown hK hH F_R9 rfl 0 (by decide) (hts _ mw_129) (fun _ h9 => h9) rfl d_Ns_adopt_52 ?_
    refine lv_iload_n hx hb d_Ns_adopt_55 rfl (lv_at hl 3 rfl) ?_
    refine hm_aald (v := .ref a_57) hx hb hK hH 4 F_s7 (C := R_No) rfl (iIn (by omega) (by omega)) (by rw [e_58]; rfl) d_Ns_adopt_56 ?_
    obtain ⟨v_82, v_83, v_85, v_87, v_88, v_90, v_91, v_92, v_94, v_95, v_96, F_a_57, c_84, c_86, c_89, c_93⟩ := TI_node hT T_59
    refine hm_callPi (va_runV (As := []) (b := a_57) (rest := [.ref P9, .ref a8]) ⟨hx, hb, hml, hown, hts⟩ (t_parNo2 l D t G ak av h_75 τ n 1 a_57  hn hT T_59) ⟨cw9B 0 hts mw_512 mw_513 mw_106 rfl rfl (by decide +kernel) ⟨Nat.le_of_ble_eq_true rfl, Nat.le_of_ble_eq_true rfl⟩, hts _ mw_514, hts _ mw_515⟩ (hP_V (q := (R_No, F_No, 11)) kE_ok hE hK hH F_a_57 rfl) rfl rfl hl.1 rfl (lv_room (Nat.le_of_ble_eq_true rfl)) d_Ns_adopt_57 ⟨Nat.le_of_ble_eq_true rfl, Nat.le_of_ble_eq_true rfl⟩) (fun r_97 h_98 H_99 hp_101  hH z_100 => ?_)
    have hz : s.heap.size ≤ H_99.size := Nat.le_trans hz z_100
    obtain ⟨xp_102, rfl⟩ := hp_101
    refine hm_callPr (va_runV (As := [.int r_97]) (b := P9) (rest := [.ref a8]) ⟨hx, hb, hml, hown, hts⟩ (t_nodeOf l D t G ak av h_75 τ n 0 P9 r_97  hn hT T_P9) ⟨cw9B 1 hts mw_131 mw_133 mw_132 rfl rfl (by decide +kernel) ⟨Nat.le_of_ble_eq_true rfl, Nat.le_of_ble_eq_true rfl⟩, hts _ mw_134, hts _ mw_135⟩ (hP_V (q := (R_Ns, F_Ns, 4)) kE_ok hE hK hH F_P9 rfl) rfl rfl hl.1 rfl (lv_room (Nat.le_of_ble_eq_true rfl)) d_Ns_adopt_60 ⟨Nat.le_of_ble_eq_true rfl, Nat.le_of_ble_eq_true rfl⟩) (fun r_103 h_104 H_105 hp_107  hH z_106 => ?_)
    have hz : s.heap.size ≤ H_105.size := Nat.le_trans hz z_106
    obtain ⟨c_108, xp_109, rfl⟩ := hp_107
    have isj : (i9 + 1).toInt = i9.toInt + 1 := iAddK 1 rfl (by omega) (by omega)
    obtain ⟨j7, q7, e7, hj7, hs7⟩ := adopt_par (i := i9.toInt.toNat) (by omega) (by omega) hc30 hrd7 e_58 xp_102 (show Nds t h_75 P9 v_1 v_3 (i9 + 1) (i9 + 1) g_8 from ⟨F_P9, F_v_1⟩) (by omega) hrd hsl8 (by rw [← i_nI (by omega)]; exact h84) xp_109.1 xp_109.2
    subst e7
    have T_q7 := c_108 q7 rfl
    obtain ⟨v_110, v_111, v_113, v_115, v_116, v_118, v_119, v_120, v_122, v_123, v_124, F_a8, c_112, c_114, c_117, c_121⟩ := TI_node hT T_a8
    have hv8 : v_110 = i9 := by
      have hq9 := nod_of F_a8
      rw [h84] at hq9
      cases hq9
      rfl
    have hIp := hT
    have hFs := F_v_1
    refine hm_put (ci := 1) (v := .ref q7) (ty := (.object "WriteOnceDisc$Node")) (C := R_No) (T := F_No) (N := 11) hx hb hts ig_No t_No tk_No nm_No hown hK hH hLo F_a8 rfl 1 (by decide) (hts _ mw_137) (fun _ h9 => h9) rfl (by decide +kernel) rfl rfl (Nat.le_of_ble_eq_true rfl) d_Ns_adopt_63 (fun H_125 locs hH z_126 hLo => ?_)
    have hz : s.heap.size ≤ H_125.size := by rw [z_126]; exact hz
    obtain ⟨h_127, e_128⟩ : ∃ z, z = hu h_75 a8 (.inr (1, [.int v_110, .ref q7, .int v_113, .long v_115, .int v_116, .int v_118, .int v_119, .int v_120, .int v_122, .int v_123, .int v_124])) := ⟨_, rfl⟩
    have hH : hm D vwCl G h_127 H_125 := by rw [e_128]; exact hH
    have F_R9 : h_127 R9 = some (.inr (2, [.ref s7, .ref o7, .int (nI c7), .int (nI c7)])) := by rw [e_128, hu_n (tne T_R9 T_a8 (by decide))]; exact F_R9
    have F_s7 : h_127 s7 = some (.inl ((t 4), 30, .inr (.inr (.inr (.inr sl7))))) := by rw [e_128, hu_n (tne Tn0 T_a8 (by decide))]; exact F_s7
    have F_v_1 : h_127 v_1 = some (.inl ((t 4), 30, .inr (.inr (.inr (.inr g_8))))) := by rw [e_128, hu_n (tne c_2 T_a8 (by decide))]; exact F_v_1
    have F_P9 : h_127 P9 = some (.inr (2, [.ref v_1, .ref v_3, .int (i9 + 1), .int (i9 + 1)])) := by rw [e_128, hu_n (tne T_P9 T_a8 (by decide))]; exact F_P9
    have F_a_57 : h_127 a_57 = some (.inr (1, [.int v_82, va_rf v_83, .int v_85, .long v_87, .int v_88, .int v_90, .int v_91, .int v_92, .int v_94, .int v_95, .int v_96])) := by rw [e_128, hu_n (tneF T_59 T_a8 (by decide))]; exact F_a_57
    have F_a8 : h_127 a8 = some (.inr (1, [.int v_110, .ref q7, .int v_113, .long v_115, .int v_116, .int v_118, .int v_119, .int v_120, .int v_122, .int v_123, .int v_124])) := by rw [e_128]; exact hu_s _ _ _
    have hT : TI τ t n h_127 := by rw [e_128]; exact TI_put hT T_a8 (by decide) ⟨v_110, some q7, v_113, v_115, v_116, v_118, v_119, v_120, v_122, v_123, v_124, rfl, (fun _ h9 => by cases h9; exact T_q7), c_114, c_117, c_121⟩
    have hkf : kf τ [(10, 0)] [P9] h h_127 := by rw [e_128]; exact kf_put hkf T_a8 List.mem_cons_self
    have hno8 : nod h_127 a8 = some (.int i9, .ref q7) := by rw [← hv8]; exact nod_of F_a8
    have hrd7 : rdN h_127 sl7 c7 := rdN_knp Tn2 hc30 hrd7 (by rw [e_128]; exact knp_put2 knp_rf (fun z => by have := z.symm.trans T_a8; simp at this))
    obtain ⟨j_129, e_130⟩ : ∃ z : Int32, z = i9 + 1 := ⟨_, rfl⟩
    refine lv_iinc (v := j_129) (lv' := [(2, .int j_129), (3, .ref a8), (0, .ref P9), (1, .ref R9)]) hx hb d_Ns_adopt_66 hl (k := 3) rfl e_130.symm (by decide) rfl (fun ls hl => ?_)
    refine lv_goto (tgt := 21) hx hb d_Ns_adopt_69 (by decide) ?_
    have is_131 : j_129.toInt = i9.toInt + 1 := by rw [e_130]; exact iAddK 1 rfl (by omega) (by omega)
    exact ih21 ((c7 - j_129.toInt).toNat) ls _ locs _ (by rw [hk21]; omega) ⟨j_129, rfl, (lv_sub hl [2, 3, 0] rfl), hH, hz, hLo, hT, hkf, (by rw [← e_130] at F_P9; exact F_P9), F_v_1, F_R9, F_s7, (rdN_more hIp c_2 hFs (by omega) (by omega) (by omega) hrd hsl8 e_128 hno8 hj7 hs7), hrd7, ⟨by omega, by omega⟩⟩
