theorem d_Ns_drop_0 : decode b_Ns_drop 0 = .ok (.iconst 0, 1) := by decide +kernel
theorem d_Ns_drop_1 : decode b_Ns_drop 1 = .ok (.istore_n 2, 1) := by decide +kernel
theorem d_Ns_drop_2 : decode b_Ns_drop 2 = .ok (.iconst 0, 1) := by decide +kernel
theorem d_Ns_drop_3 : decode b_Ns_drop 3 = .ok (.istore_n 3, 1) := by decide +kernel
theorem d_Ns_drop_4 : decode b_Ns_drop 4 = .ok (.iload_n 3, 1) := by decide +kernel
theorem d_Ns_drop_5 : decode b_Ns_drop 5 = .ok (.aload_n 0, 1) := by decide +kernel
theorem d_Ns_drop_6 : decode b_Ns_drop 6 = .ok (.getfield 20, 3) := by decide +kernel
theorem d_Ns_drop_9 : decode b_Ns_drop 9 = .ok (.if_icmp .ge 34, 3) := by decide +kernel
theorem d_Ns_drop_43 : decode b_Ns_drop 43 = .ok (.iload_n 2, 1) := by decide +kernel
theorem d_Ns_drop_44 : decode b_Ns_drop 44 = .ok (.aload_n 0, 1) := by decide +kernel
theorem d_Ns_drop_45 : decode b_Ns_drop 45 = .ok (.getfield 20, 3) := by decide +kernel
theorem d_Ns_drop_48 : decode b_Ns_drop 48 = .ok (.if_icmp .ge 10, 3) := by decide +kernel
theorem d_Ns_drop_51 : decode b_Ns_drop 51 = .ok (.aload_n 0, 1) := by decide +kernel
theorem d_Ns_drop_52 : decode b_Ns_drop 52 = .ok (.getfield 11, 3) := by decide +kernel
theorem d_Ns_drop_55 : decode b_Ns_drop 55 = .ok (.iload_n 2, 1) := by decide +kernel
theorem d_Ns_drop_56 : decode b_Ns_drop 56 = .ok (.aload_n 1, 1) := by decide +kernel
theorem d_Ns_drop_57 : decode b_Ns_drop 57 = .ok (.aastore, 1) := by decide +kernel
theorem d_Ns_drop_58 : decode b_Ns_drop 58 = .ok (.aload_n 0, 1) := by decide +kernel
theorem d_Ns_drop_59 : decode b_Ns_drop 59 = .ok (.iload_n 2, 1) := by decide +kernel
theorem d_Ns_drop_60 : decode b_Ns_drop 60 = .ok (.putfield 20, 3) := by decide +kernel
theorem d_Ns_drop_63 : decode b_Ns_drop 63 = .ok (.return_, 1) := by decide +kernel
theorem d_Ns_drop_12 : decode b_Ns_drop 12 = .ok (.aload_n 0, 1) := by decide +kernel
theorem d_Ns_drop_13 : decode b_Ns_drop 13 = .ok (.getfield 11, 3) := by decide +kernel
theorem d_Ns_drop_16 : decode b_Ns_drop 16 = .ok (.iload_n 3, 1) := by decide +kernel
theorem d_Ns_drop_17 : decode b_Ns_drop 17 = .ok (.aaload, 1) := by decide +kernel
theorem d_Ns_drop_18 : decode b_Ns_drop 18 = .ok (.aload_n 1, 1) := by decide +kernel
theorem d_Ns_drop_19 : decode b_Ns_drop 19 = .ok (.if_acmp .eq 18, 3) := by decide +kernel
theorem d_Ns_drop_37 : decode b_Ns_drop 37 = .ok (.iinc 3 1, 3) := by decide +kernel
theorem d_Ns_drop_40 : decode b_Ns_drop 40 = .ok (.goto (-36), 3) := by decide +kernel
theorem d_Ns_drop_22 : decode b_Ns_drop 22 = .ok (.aload_n 0, 1) := by decide +kernel
theorem d_Ns_drop_23 : decode b_Ns_drop 23 = .ok (.getfield 11, 3) := by decide +kernel
theorem d_Ns_drop_26 : decode b_Ns_drop 26 = .ok (.iload_n 2, 1) := by decide +kernel
theorem d_Ns_drop_27 : decode b_Ns_drop 27 = .ok (.aload_n 0, 1) := by decide +kernel
theorem d_Ns_drop_28 : decode b_Ns_drop 28 = .ok (.getfield 11, 3) := by decide +kernel
theorem d_Ns_drop_31 : decode b_Ns_drop 31 = .ok (.iload_n 3, 1) := by decide +kernel
theorem d_Ns_drop_32 : decode b_Ns_drop 32 = .ok (.aaload, 1) := by decide +kernel
theorem d_Ns_drop_33 : decode b_Ns_drop 33 = .ok (.aastore, 1) := by decide +kernel
theorem d_Ns_drop_34 : decode b_Ns_drop 34 = .ok (.iinc 2 1, 3) := by decide +kernel
set_option maxHeartbeats 4000000 in
set_option maxRecDepth 100000 in
theorem t_drop (l : Launch) (D : va_G) (t : Nat → ClassId) (G : hG) (ak av : Nat → Nat) (h : hM) (τ : tM) (n f : Nat) (P9 : Nat) (d9 : Nat) (hn : n ≤ 200) (hT : TI τ t n h) (T_P9 : τ P9 = (7, f)) (T_d9 : τ d9 = (10, f)) (hlv : ∃ s o c nn sl, Nds t h P9 s o c nn sl ∧ live sl c.toInt.toNat d9) : Met l y_Ns_drop (.code y_Ns_drop b_Ns_drop 4 none :: lw_g) { frames := 0, cells := 0, slots := 0, locals := 0 } (hP (kE D t G ak av) D vwCl G h [.ref P9, .ref d9]) (hQv D vwCl G (fun h' => TI τ t n h' ∧ kf τ [(8, f)] [P9] h h' ∧ drP t h h' P9 d9)) 0 0 G.P := by
  refine Met.ofW (cc := b_Ns_drop) (maxL := 4) (ret := none) (by decide) rfl ?_
  intro p e s m args below meth c s₁ Bd hml hv
  obtain ⟨ha, hE, hH⟩ := hv
  have hx := Bd.exec
  have hb := Bd.bytes
  have hr := Bd.returns
  have hts : ∀ w ∈ lw_g, w.before args s = true := fun w hw => atoms_spec (ws := (.code y_Ns_drop b_Ns_drop 4 none :: lw_g)) Bd.pre w (List.mem_cons_of_mem _ hw)
  have hown : s.vm.findClass R_Ns = some m.cls := findClass_of_methodNamed Bd.named
  have hlocks := Bd.notSynchronized
  have hK := hE.1
  have hH0 := hH
  have hLo : hLc G.P [] := hLc_nil
  have hz : s.heap.size ≤ s.heap.size := Nat.le_refl _
  have hl := lv_entry [.ref P9, .ref d9] (n := 4) (Nat.le_of_ble_eq_true rfl)
  rw [show entryFrame m args 4 = F0 m 0 ((lg_sl [.ref P9, .ref d9] ++ List.replicate (4 - (lg_sl [.ref P9, .ref d9]).length) Slot.unset).toArray) [] from (by rw [ha]; exact lg_entry_eq m [.ref P9, .ref d9] 4)]
  generalize (lg_sl [.ref P9, .ref d9] ++ List.replicate (4 - (lg_sl [.ref P9, .ref d9]).length) Slot.unset).toArray = ls at hl ⊢
  have hl : lv_has ls 4 [(0, .ref P9), (1, .ref d9)] := hl
  have hkf : kf τ [(8, f)] [P9] h h := kf_rf
  obtain ⟨s8, o8, c8, n8, sl8, ⟨F_P9, F_s8⟩, ix8, hix8, hsx8⟩ := hlv
  obtain ⟨Tn0, Tn1, Tn4⟩ := TJ_nds hT T_P9 F_P9
  obtain ⟨Tn2, Tn3⟩ := TJ_slo hT Tn0 F_s8
  have O_N : Nds t h P9 s8 o8 c8 n8 sl8 := ⟨F_P9, F_s8⟩
  refine lv_iconst (v := 0) hx hb d_Ns_drop_0 (by decide) ?_
  refine lv_istore_n (lv' := [(2, .int 0), (0, .ref P9), (1, .ref d9)]) hx hb d_Ns_drop_1 rfl hl (by decide) rfl (fun ls hl => ?_)
  refine lv_iconst (v := 0) hx hb d_Ns_drop_2 (by decide) ?_
  refine lv_istore_n (lv' := [(3, .int 0), (2, .int 0), (0, .ref P9), (1, .ref d9)]) hx hb d_Ns_drop_3 rfl hl (by decide) rfl (fun ls hl => ?_)
  have F_s8 : h s8 = some (.inl ((t 4), 30, .inr (.inr (.inr (.inr (shF sl8 ix8 (0 : Int32).toInt.toNat)))))) := by rw [show (0 : Int32).toInt.toNat = 0 from rfl, shF_0 (Nat.zero_le _)]; exact F_s8
  refine hm_loop (fun k4 ls H locs hh4 => ∃ (i9 : Int32) (k9 : Int32), k4 = (c8.toInt - i9.toInt).toNat ∧ lv_has ls 4 [(3, .int i9), (2, .int k9), (0, .ref P9), (1, .ref d9)] ∧ hm D vwCl G hh4 H ∧ s.heap.size ≤ H.size ∧ hLc G.P locs ∧ hh4 P9 = some (.inr (2, [.ref s8, .ref o8, .int c8, .int n8])) ∧ hh4 s8 = some (.inl ((t 4), 30, .inr (.inr (.inr (.inr (shF sl8 ix8 k9.toInt.toNat)))))) ∧ (∀ q, q ≠ s8 → hh4 q = h q) ∧ (0 ≤ i9.toInt ∧ i9.toInt ≤ c8.toInt ∧ 0 ≤ k9.toInt) ∧ ((i9.toInt.toNat ≤ ix8 ∧ k9 = i9) ∨ (ix8 < i9.toInt.toNat ∧ k9.toInt + 1 = i9.toInt))) ?_ (hh := h) ⟨0, 0, rfl, (lv_sub hl [0, 1, 2, 3] rfl), hH, hz, hLo, F_P9, F_s8, (fun _ _ => rfl), ⟨by decide, Tn4.1, by decide⟩, Or.inl ⟨Nat.zero_le _, rfl⟩⟩
  rintro k4 ls H locs hh4 ⟨i9, k9, hk4, hl, hH, hz, hLo, F_P9, F_s8, hEq, I1, I2⟩ ih4
  have iI2 : (i9.toInt.toNat ≤ ix8 ∧ k9.toInt = i9.toInt) ∨ (ix8 < i9.toInt.toNat ∧ k9.toInt + 1 = i9.toInt) := by
    rcases I2 with ⟨q1, q2⟩ | q
    · exact Or.inl ⟨q1, by rw [q2]⟩
    · exact Or.inr q
  refine lv_iload_n hx hb d_Ns_drop_4 rfl (lv_at hl 0 rfl) ?_
  refine lv_aload_n hx hb d_Ns_drop_5 rfl (lv_at hl 2 rfl) ?_
  refine hm_get (ci := 2) (v := .int c8) (C := R_Ns) (T := F_Ns) (N := 4) hx hb hts ig_Ns hown hK hH F_P9 rfl 2 (by decide) (hts _ mw_128) (fun _ h9 => h9) rfl d_Ns_drop_6 ?_
  refine lv_icmp_ge (tgt := 43) hx hb d_Ns_drop_9 (by decide) (fun hc_1 => ?_) (fun hc_1 => ?_)
  · skip
    have ic : c8.toInt ≤ i9.toInt := iLe hc_1
    have hk1 : k9.toInt + 1 = c8.toInt := by omega
    refine lv_iload_n hx hb d_Ns_drop_43 rfl (lv_at hl 1 rfl) ?_
    refine lv_aload_n hx hb d_Ns_drop_44 rfl (lv_at hl 2 rfl) ?_
    refine hm_get (ci := 2) (v := .int c8) (C := R_Ns) (T := F_Ns) (N := 4) hx hb hts ig_Ns hown hK hH F_P9 rfl 2 (by decide) (hts _ mw_128) (fun _ h9 => h9) rfl d_Ns_drop_45 ?_
    refine lv_icmp_ge (tgt := 58) hx hb d_Ns_drop_48 (by decide) (fun hc_2 => absurd hc_2 (fun z => by have := iLe z; omega)) (fun hc_2 => ?_)
    refine lv_aload_n hx hb d_Ns_drop_51 rfl (lv_at hl 2 rfl) ?_
    refine hm_get (ci := 2) (v := .ref s8) (C := R_Ns) (T := F_Ns) (N := 4) hx hb hts ig_Ns hown hK hH F_P9 rfl 0 (by decide) (hts _ mw_129) (fun _ h9 => h9) rfl d_Ns_drop_52 ?_
    refine lv_iload_n hx hb d_Ns_drop_55 rfl (lv_at hl 1 rfl) ?_
    refine lv_aload_n hx hb d_Ns_drop_56 rfl (lv_at hl 3 rfl) ?_
    obtain ⟨y_50, y_51, y_52, y_53, y_54, y_55, y_56, y_57, y_58, y_59, y_5a, hq9, -⟩ := TI_node hT T_d9
    have hq9 : hh4 d9 = some (.inr (1, [.int y_50, va_rf y_51, .int y_52, .long y_53, .int y_54, .int y_55, .int y_56, .int y_57, .int y_58, .int y_59, .int y_5a])) := by rw [hEq d9 (tne T_d9 Tn0 (by decide))]; exact hq9
    refine hm_aast hx hb hK hH hLo 4 1 F_s8 rfl hq9 rfl (iIn (by omega) (by omega)) d_Ns_drop_57 (fun H_3 locs hH z_4 hLo => ?_)
    have hz : s.heap.size ≤ H_3.size := by rw [z_4]; exact hz
    obtain ⟨h_6, e_7⟩ : ∃ z, z = hu hh4 s8 (.inl ((t 4), 30, .inr (.inr (.inr (.inr (va_up (shF sl8 ix8 k9.toInt.toNat) k9.toNatClampNeg (some d9))))))) := ⟨_, rfl⟩
    have hH : hm D vwCl G h_6 H_3 := by rw [e_7]; exact hH
    have F_P9 : h_6 P9 = some (.inr (2, [.ref s8, .ref o8, .int c8, .int n8])) := by rw [e_7, hu_n (tne T_P9 Tn0 (by decide))]; exact F_P9
    have hEq : ∀ q, q ≠ s8 → h_6 q = h q := fun q hq => by rw [e_7, hu_n hq]; exact hEq q hq
    have F_s8 : h_6 s8 = some (.inl ((t 4), 30, .inr (.inr (.inr (.inr (va_up (shF sl8 ix8 k9.toInt.toNat) k9.toNatClampNeg (some d9))))))) := by rw [e_7]; exact hu_s _ _ _
    refine lv_aload_n hx hb d_Ns_drop_58 rfl (lv_at hl 2 rfl) ?_
    refine lv_iload_n hx hb d_Ns_drop_59 rfl (lv_at hl 1 rfl) ?_
    have hkf : kf τ [(8, f)] [P9] h h_6 := fun b hb hn hm => hEq b (fun z => hn (by rw [z, Tn0]; exact List.mem_cons_self))
    refine hm_put (ci := 2) (v := .int k9) (ty := .int) (C := R_Ns) (T := F_Ns) (N := 4) hx hb hts ig_Ns t_Ns tk_Ns nm_Ns hown hK hH hLo F_P9 rfl 2 (by decide) (hts _ mw_128) (fun _ h9 => h9) rfl (by decide +kernel) rfl rfl (Nat.le_of_ble_eq_true rfl) d_Ns_drop_60 (fun H_8 locs hH z_9 hLo => ?_)
    have hz : s.heap.size ≤ H_8.size := by rw [z_9]; exact hz
    obtain ⟨h_10, e_11⟩ : ∃ z, z = hu h_6 P9 (.inr (2, [.ref s8, .ref o8, .int k9, .int n8])) := ⟨_, rfl⟩
    have hH : hm D vwCl G h_10 H_8 := by rw [e_11]; exact hH
    have F_s8 : h_10 s8 = some (.inl ((t 4), 30, .inr (.inr (.inr (.inr (va_up (shF sl8 ix8 k9.toInt.toNat) k9.toNatClampNeg (some d9))))))) := by rw [e_11, hu_n (tne Tn0 T_P9 (by decide))]; exact F_s8
    have F_P9 : h_10 P9 = some (.inr (2, [.ref s8, .ref o8, .int k9, .int n8])) := by rw [e_11]; exact hu_s _ _ _
    have hkf : kf τ [(8, f)] [P9] h h_10 := by rw [e_11]; exact kf_putM hkf (by simp)
    obtain ⟨hq1, hq2⟩ := shF_end (c := k9.toInt.toNat) Tn3 (by omega) (by omega) hsx8
    have hT : TI τ t n h_10 := TI_two hT Tn0 (by decide) T_P9 (by decide) (fun q h1 h2 => by rw [e_11, hu_n h2]; exact hEq q h1) F_s8 F_P9 ⟨_, rfl, nodA_up (shF_nod Tn2 (by omega)) T_d9, hq1⟩ ⟨_, _, _, _, rfl, Tn0, Tn1, ⟨by omega, by omega⟩⟩
    have W_N : Nds t h_10 P9 s8 o8 k9 n8 (va_up (shF sl8 ix8 k9.toInt.toNat) k9.toNatClampNeg (some d9)) := ⟨F_P9, F_s8⟩
    exact W.vret hx hb hr (fun t9 ht hW => ⟨h_10, rfl, ⟨hT, hkf, (fun s o c nn sl hq _ => by
      obtain ⟨rfl, rfl, rfl, rfl, rfl⟩ := Nds_eq hq O_N
      refine ⟨k9, _, W_N, by omega, fun a => ?_⟩
      rw [show c.toInt.toNat = k9.toInt.toNat + 1 by omega]
      exact hq2 a)⟩, by rw [ht]; exact hH, by rw [ht]; exact hz⟩) hLo d_Ns_drop_63
  · skip
    have ic : i9.toInt < c8.toInt := iNe hc_1
    refine lv_aload_n hx hb d_Ns_drop_12 rfl (lv_at hl 2 rfl) ?_
    refine hm_get (ci := 2) (v := .ref s8) (C := R_Ns) (T := F_Ns) (N := 4) hx hb hts ig_Ns hown hK hH F_P9 rfl 0 (by decide) (hts _ mw_129) (fun _ h9 => h9) rfl d_Ns_drop_13 ?_
    refine lv_iload_n hx hb d_Ns_drop_16 rfl (lv_at hl 0 rfl) ?_
    obtain ⟨a_12, e_13, T_14⟩ := (shF_nod (ix := ix8) (k := k9.toInt.toNat) Tn2 (by omega)) i9.toNatClampNeg (iCl (by omega) (by omega))
    refine hm_aald (v := .ref a_12) hx hb hK hH 4 F_s8 (C := R_No) rfl (iIn (by omega) (by omega)) (by rw [e_13]; rfl) d_Ns_drop_17 ?_
    have hs9 : sl8 i9.toInt.toNat = some a_12 := by rw [← shF_at (sl := sl8) (ix := ix8) (k := k9.toInt.toNat) (i := i9.toInt.toNat) (by omega)]; exact e_13
    refine lv_aload_n hx hb d_Ns_drop_18 rfl (lv_at hl 3 rfl) ?_
    refine lv_acmp_eq (rx := some a_12) (ry := some d9) (tgt := 37) hx hb d_Ns_drop_19 (by decide) (fun hc_15 => ?_) (fun hc_15 => ?_)
    · skip
      have hx9 : i9.toInt.toNat = ix8 := Tn3 _ _ (by omega) (by omega) (by rw [hs9, hsx8, hc_15])
      obtain ⟨j_16, e_17⟩ : ∃ z : Int32, z = i9 + 1 := ⟨_, rfl⟩
      refine lv_iinc (v := j_16) (lv' := [(3, .int j_16), (2, .int k9), (0, .ref P9), (1, .ref d9)]) hx hb d_Ns_drop_37 hl (k := 0) rfl e_17.symm (by decide) rfl (fun ls hl => ?_)
      have is_18 : j_16.toInt = i9.toInt + 1 := by rw [e_17]; exact iAddK 1 rfl (by omega) (by omega)
      refine lv_goto (tgt := 4) hx hb d_Ns_drop_40 (by decide) ?_
      exact ih4 ((c8.toInt - j_16.toInt).toNat) ls _ locs _ (by rw [hk4]; omega) ⟨j_16, k9, rfl, (lv_sub hl [0, 1, 2, 3] rfl), hH, hz, hLo, F_P9, F_s8, hEq, ⟨by omega, by omega, by omega⟩, Or.inr ⟨by omega, by omega⟩⟩
    · skip
      have hx9 : i9.toInt.toNat ≠ ix8 := fun z => hc_15 (by rw [← hsx8, ← z, hs9])
      refine lv_aload_n hx hb d_Ns_drop_22 rfl (lv_at hl 2 rfl) ?_
      refine hm_get (ci := 2) (v := .ref s8) (C := R_Ns) (T := F_Ns) (N := 4) hx hb hts ig_Ns hown hK hH F_P9 rfl 0 (by decide) (hts _ mw_129) (fun _ h9 => h9) rfl d_Ns_drop_23 ?_
      refine lv_iload_n hx hb d_Ns_drop_26 rfl (lv_at hl 1 rfl) ?_
      refine lv_aload_n hx hb d_Ns_drop_27 rfl (lv_at hl 2 rfl) ?_
      refine hm_get (ci := 2) (v := .ref s8) (C := R_Ns) (T := F_Ns) (N := 4) hx hb hts ig_Ns hown hK hH F_P9 rfl 0 (by decide) (hts _ mw_129) (fun _ h9 => h9) rfl d_Ns_drop_28 ?_
      refine lv_iload_n hx hb d_Ns_drop_31 rfl (lv_at hl 0 rfl) ?_
      refine hm_aald (v := .ref a_12) hx hb hK hH 4 F_s8 (C := R_No) rfl (iIn (by omega) (by omega)) (by rw [e_13]; rfl) d_Ns_drop_32 ?_
      obtain ⟨y_210, y_211, y_212, y_213, y_214, y_215, y_216, y_217, y_218, y_219, y_21a, hq9, -⟩ := TI_node hT T_14
      have hq9 : hh4 a_12 = some (.inr (1, [.int y_210, va_rf y_211, .int y_212, .long y_213, .int y_214, .int y_215, .int y_216, .int y_217, .int y_218, .int y_219, .int y_21a])) := by rw [hEq a_12 (tne T_14 Tn0 (by decide))]; exact hq9
      refine hm_aast hx hb hK hH hLo 4 1 F_s8 rfl hq9 rfl (iIn (by omega) (by omega)) d_Ns_drop_33 (fun H_19 locs hH z_20 hLo => ?_)
      have hz : s.heap.size ≤ H_19.size := by rw [z_20]; exact hz
      obtain ⟨h_22, e_23⟩ : ∃ z, z = hu hh4 s8 (.inl ((t 4), 30, .inr (.inr (.inr (.inr (va_up (shF sl8 ix8 k9.toInt.toNat) k9.toNatClampNeg (some a_12))))))) := ⟨_, rfl⟩
      have hH : hm D vwCl G h_22 H_19 := by rw [e_23]; exact hH
      have F_P9 : h_22 P9 = some (.inr (2, [.ref s8, .ref o8, .int c8, .int n8])) := by rw [e_23, hu_n (tne T_P9 Tn0 (by decide))]; exact F_P9
      have hEq : ∀ q, q ≠ s8 → h_22 q = h q := fun q hq => by rw [e_23, hu_n hq]; exact hEq q hq
      have isk : (k9 + 1).toInt = k9.toInt + 1 := iAddK 1 rfl (by omega) (by omega)
      have F_s8 : h_22 s8 = some (.inl ((t 4), 30, .inr (.inr (.inr (.inr (shF sl8 ix8 (k9 + 1).toInt.toNat)))))) := by
        rw [e_23, hu_s, show va_up (shF sl8 ix8 k9.toInt.toNat) k9.toNatClampNeg (some a_12) = shF sl8 ix8 (k9 + 1).toInt.toNat from ?_]
        rw [show (k9 + 1).toInt.toNat = k9.toInt.toNat + 1 by omega]
        exact shF_up (i := i9.toInt.toNat) (by omega) hs9
      obtain ⟨j_24, e_25⟩ : ∃ z : Int32, z = k9 + 1 := ⟨_, rfl⟩
      refine lv_iinc (v := j_24) (lv' := [(2, .int j_24), (3, .int i9), (0, .ref P9), (1, .ref d9)]) hx hb d_Ns_drop_34 hl (k := 1) rfl e_25.symm (by decide) rfl (fun ls hl => ?_)
      have is_26 : j_24.toInt = k9.toInt + 1 := by rw [e_25]; exact iAddK 1 rfl (by omega) (by omega)
      obtain ⟨j_27, e_28⟩ : ∃ z : Int32, z = i9 + 1 := ⟨_, rfl⟩
      refine lv_iinc (v := j_27) (lv' := [(3, .int j_27), (2, .int j_24), (0, .ref P9), (1, .ref d9)]) hx hb d_Ns_drop_37 hl (k := 1) rfl e_28.symm (by decide) rfl (fun ls hl => ?_)
      have is_29 : j_27.toInt = i9.toInt + 1 := by rw [e_28]; exact iAddK 1 rfl (by omega) (by omega)
      refine lv_goto (tgt := 4) hx hb d_Ns_drop_40 (by decide) ?_
      rw [← e_25] at F_s8
      exact ih4 ((c8.toInt - j_27.toInt).toNat) ls _ locs _ (by rw [hk4]; omega) ⟨j_27, j_24, rfl, (lv_sub hl [0, 1, 2, 3] rfl), hH, hz, hLo, F_P9, F_s8, hEq, ⟨by omega, by omega, by omega⟩, (by rcases I2 with ⟨q1, q2⟩ | ⟨q1, q2⟩; exact Or.inl ⟨by omega, by rw [e_25, e_28, q2]⟩; exact Or.inr ⟨by omega, by omega⟩)⟩
