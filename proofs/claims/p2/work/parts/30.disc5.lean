set_option maxRecDepth 100000 in
theorem mw_486 : Cond.code y_Wr_writeNewFiles b_Wr_writeNewFiles 6 (some .int) ∈ lw_g := lw_gin (List.mem_append_right _ (List.mem_of_getElem? (i := 376) rfl)) (by decide +kernel)
set_option maxRecDepth 100000 in
theorem mw_487 : Cond.methodLink R_Di 131 y_Wr_writeNewFiles ∈ lw_g := lw_gin (List.mem_append_right _ (List.mem_of_getElem? (i := 373) rfl)) (by decide +kernel)
set_option maxRecDepth 100000 in
theorem mw_488 : Cond.instanceMethod y_Wr_writeNewFiles ∈ lw_g := lw_gin (List.mem_append_right _ (List.mem_of_getElem? (i := 374) rfl)) (by decide +kernel)
set_option maxRecDepth 100000 in
theorem mw_489 : Cond.selects R_Wr y_Wr_writeNewFiles y_Wr_writeNewFiles ∈ lw_g := lw_gin (List.mem_append_right _ (List.mem_of_getElem? (i := 375) rfl)) (by decide +kernel)
set_option maxRecDepth 100000 in
theorem mw_490 : Cond.fieldLink R_Di 34 "WriteOnceDisc" "lastNumber" "I" ∈ lw_g := lw_gin (List.mem_append_right _ (List.mem_of_getElem? (i := 241) rfl)) (by decide +kernel)
set_option maxRecDepth 100000 in
theorem mw_491 : Cond.code y_Wr_writeSession b_Wr_writeSession 8 (some .int) ∈ lw_g := lw_gin (List.mem_append_right _ (List.mem_of_getElem? (i := 451) rfl)) (by decide +kernel)
set_option maxRecDepth 100000 in
theorem mw_492 : Cond.methodLink R_Di 135 y_Wr_writeSession ∈ lw_g := lw_gin (List.mem_append_right _ (List.mem_of_getElem? (i := 448) rfl)) (by decide +kernel)
set_option maxRecDepth 100000 in
theorem mw_493 : Cond.instanceMethod y_Wr_writeSession ∈ lw_g := lw_gin (List.mem_append_right _ (List.mem_of_getElem? (i := 449) rfl)) (by decide +kernel)
set_option maxRecDepth 100000 in
theorem mw_494 : Cond.selects R_Wr y_Wr_writeSession y_Wr_writeSession ∈ lw_g := lw_gin (List.mem_append_right _ (List.mem_of_getElem? (i := 450) rfl)) (by decide +kernel)
theorem d_Di_commit_0 : decode b_Di_commit 0 = .ok (.aload_n 0, 1) := by decide +kernel
theorem d_Di_commit_1 : decode b_Di_commit 1 = .ok (.getfield 10, 3) := by decide +kernel
theorem d_Di_commit_4 : decode b_Di_commit 4 = .ok (.getfield 60, 3) := by decide +kernel
theorem d_Di_commit_7 : decode b_Di_commit 7 = .ok (.getfield 69, 3) := by decide +kernel
theorem d_Di_commit_10 : decode b_Di_commit 10 = .ok (.ifCond .eq 6, 3) := by decide +kernel
theorem d_Di_commit_16 : decode b_Di_commit 16 = .ok (.aload_n 0, 1) := by decide +kernel
theorem d_Di_commit_17 : decode b_Di_commit 17 = .ok (.getfield 10, 3) := by decide +kernel
theorem d_Di_commit_20 : decode b_Di_commit 20 = .ok (.aload_n 0, 1) := by decide +kernel
theorem d_Di_commit_21 : decode b_Di_commit 21 = .ok (.getfield 26, 3) := by decide +kernel
theorem d_Di_commit_24 : decode b_Di_commit 24 = .ok (.aload_n 0, 1) := by decide +kernel
theorem d_Di_commit_25 : decode b_Di_commit 25 = .ok (.getfield 53, 3) := by decide +kernel
theorem d_Di_commit_28 : decode b_Di_commit 28 = .ok (.invokevirtual 131, 3) := by decide +kernel
theorem d_Di_commit_31 : decode b_Di_commit 31 = .ok (.istore_n 1, 1) := by decide +kernel
theorem d_Di_commit_32 : decode b_Di_commit 32 = .ok (.iload_n 1, 1) := by decide +kernel
theorem d_Di_commit_33 : decode b_Di_commit 33 = .ok (.iconst 1, 1) := by decide +kernel
theorem d_Di_commit_34 : decode b_Di_commit 34 = .ok (.if_icmp .ne 25, 3) := by decide +kernel
theorem d_Di_commit_59 : decode b_Di_commit 59 = .ok (.iload_n 1, 1) := by decide +kernel
theorem d_Di_commit_60 : decode b_Di_commit 60 = .ok (.iconst 1, 1) := by decide +kernel
theorem d_Di_commit_61 : decode b_Di_commit 61 = .ok (.if_icmp .eq 5, 3) := by decide +kernel
theorem d_Di_commit_66 : decode b_Di_commit 66 = .ok (.aload_n 0, 1) := by decide +kernel
theorem d_Di_commit_67 : decode b_Di_commit 67 = .ok (.dup, 1) := by decide +kernel
theorem d_Di_commit_68 : decode b_Di_commit 68 = .ok (.getfield 34, 3) := by decide +kernel
theorem d_Di_commit_71 : decode b_Di_commit 71 = .ok (.iconst 1, 1) := by decide +kernel
theorem d_Di_commit_72 : decode b_Di_commit 72 = .ok (.iadd, 1) := by decide +kernel
theorem d_Di_commit_73 : decode b_Di_commit 73 = .ok (.putfield 34, 3) := by decide +kernel
theorem d_Di_commit_76 : decode b_Di_commit 76 = .ok (.aload_n 0, 1) := by decide +kernel
theorem d_Di_commit_77 : decode b_Di_commit 77 = .ok (.getfield 34, 3) := by decide +kernel
theorem d_Di_commit_80 : decode b_Di_commit 80 = .ok (.ireturn, 1) := by decide +kernel
theorem d_Di_commit_64 : decode b_Di_commit 64 = .ok (.iload_n 1, 1) := by decide +kernel
theorem d_Di_commit_65 : decode b_Di_commit 65 = .ok (.ireturn, 1) := by decide +kernel
theorem d_Di_commit_37 : decode b_Di_commit 37 = .ok (.aload_n 0, 1) := by decide +kernel
theorem d_Di_commit_38 : decode b_Di_commit 38 = .ok (.getfield 10, 3) := by decide +kernel
theorem d_Di_commit_41 : decode b_Di_commit 41 = .ok (.aload_n 0, 1) := by decide +kernel
theorem d_Di_commit_42 : decode b_Di_commit 42 = .ok (.getfield 26, 3) := by decide +kernel
theorem d_Di_commit_45 : decode b_Di_commit 45 = .ok (.aload_n 0, 1) := by decide +kernel
theorem d_Di_commit_46 : decode b_Di_commit 46 = .ok (.getfield 53, 3) := by decide +kernel
theorem d_Di_commit_49 : decode b_Di_commit 49 = .ok (.aload_n 0, 1) := by decide +kernel
theorem d_Di_commit_50 : decode b_Di_commit 50 = .ok (.getfield 34, 3) := by decide +kernel
theorem d_Di_commit_53 : decode b_Di_commit 53 = .ok (.iconst 1, 1) := by decide +kernel
theorem d_Di_commit_54 : decode b_Di_commit 54 = .ok (.iadd, 1) := by decide +kernel
theorem d_Di_commit_55 : decode b_Di_commit 55 = .ok (.invokevirtual 135, 3) := by decide +kernel
theorem d_Di_commit_58 : decode b_Di_commit 58 = .ok (.istore_n 1, 1) := by decide +kernel
theorem d_Di_commit_13 : decode b_Di_commit 13 = .ok (.bipush (-4), 2) := by decide +kernel
theorem d_Di_commit_15 : decode b_Di_commit 15 = .ok (.ireturn, 1) := by decide +kernel
theorem TrP_same2 {τ : tM} {t : Nat → ClassId} {n f : Nat} {h h' : hM} {P : Nat} (hI : TI τ t n h') (hP : τ P = (7, f)) (hT : TrP t h P) (h1 : h' P = h P) (h2 : ∀ s, τ s = (8, f) → h' s = h s) (h3 : knp τ f h h') : TrP t h' P := by
  obtain ⟨s, o, c, nn, sl, ⟨g1, g2⟩, g3, g4, g5⟩ := hT
  obtain ⟨t1, t2, -⟩ := TJ_nds hI hP (h1.trans g1)
  obtain ⟨t3, -⟩ := TJ_slo hI t1 ((h2 s t1).trans g2)
  refine ⟨s, o, c, nn, sl, ⟨h1.trans g1, (h2 s t1).trans g2⟩, g3, g4, Tr_same g5 (fun a ha => ?_)⟩
  obtain ⟨i, hi, hs⟩ := ha
  obtain ⟨a', e1, e2⟩ := t3 i (by omega)
  obtain rfl : a' = a := Option.some.inj (e1.symm.trans hs)
  exact prt_nod (h3 a' e2)
theorem TrP_put {τ : tM} {t : Nat → ClassId} {n : Nat} {h : hM} {a : Nat} {e : va_E} (hI : TI τ t n (hu h a e)) (h7 : τ a ≠ (7, 0)) (h8 : τ a ≠ (8, 0)) (h10 : τ a ≠ (10, 0)) (hT : ∀ P, τ P = (7, 0) → TrP t h P) : ∀ P, τ P = (7, 0) → TrP t (hu h a e) P := fun P hP =>
  TrP_same2 hI hP (hT P hP) (hu_n (fun z => h7 (by rw [← z]; exact hP))) (fun s hs => hu_n (fun z => h8 (by rw [← z]; exact hs))) (knp_put2 knp_rf h10)
theorem TrP_kf {τ : tM} {t : Nat → ClassId} {n : Nat} {h h' : hM} {S : List (Nat × Nat)} {M : List Nat} (hI : TI τ t n h') (hk : kf τ S M h h') (h7 : (7, 0) ∉ S) (h8 : (8, 0) ∉ S) (hM : ∀ a ∈ M, τ a ≠ (7, 0) ∧ τ a ≠ (8, 0)) (hn : knp τ 0 h h') (hT : ∀ P, τ P = (7, 0) → TrP t h P) : ∀ P, τ P = (7, 0) → TrP t h' P := fun P hP =>
  TrP_same2 hI hP (hT P hP) (hk P (by rw [hP]; exact Nat.succ_ne_zero _) (by rw [hP]; exact h7) (fun z => (hM P z).1 hP)) (fun s hs => hk s (by rw [hs]; exact Nat.succ_ne_zero _) (by rw [hs]; exact h8) (fun z => (hM s z).2 hs)) hn
/-! what a first compact will make -/
def spz (h : hM) (x : Nat) : Nat := match h x with
  | some (.inr (8, [_, _, _, _, .null, _, _, _, _])) => 402
  | _ => 0
theorem spz_put {h h1 : hM} {x : Nat} {a b c d e f g i j a' b' c' d' f' g' i' j' : Value} (k : spz h1 x = spz h x) (ho : h1 x = some (.inr (8, [a, b, c, d, e, f, g, i, j]))) : spz (hu h1 x (.inr (8, [a', b', c', d', e, f', g', i', j']))) x = spz h x := by
  rw [← k]
  unfold spz
  rw [hu_s, ho]
  cases e <;> rfl
theorem spz_put2 {h h1 : hM} {x q : Nat} {e : va_E} (k : spz h1 x = spz h x) (hq : x ≠ q) : spz (hu h1 q e) x = spz h x := by
  rw [← k]
  unfold spz
  rw [hu_n hq]
theorem spz_kf {τ : tM} {h h1 h2 : hM} {S : List (Nat × Nat)} {M : List Nat} {x : Nat} (k : spz h1 x = spz h x) (k2 : kf τ S M h1 h2) (hx : τ x = (1, 0)) (hS : (1, 0) ∉ S) (hM : ∀ a ∈ M, τ a ≠ (1, 0)) : spz h2 x = spz h x := by
  rw [← k]
  unfold spz
  rw [k2 x (by rw [hx]; exact Nat.succ_ne_zero _) (by rw [hx]; exact hS) (fun z => hM x z hx)]
theorem spz_of {h : hM} {x : Nat} {a b c d f g i j : Value} {v : Option Nat} (hx : h x = some (.inr (8, [a, b, c, d, va_rf v, f, g, i, j]))) : spz h x = if v = none then 402 else 0 := by
  unfold spz
  rw [hx]
  cases v <;> rfl

set_option maxHeartbeats 4000000 in
set_option maxRecDepth 100000 in
theorem x_commit (l : Launch) (D : va_G) (t : Nat → ClassId) (G : hG) (ak av : Nat → Nat) (h : hM) (τ : tM) (n : Nat) (x9 : Nat) (hn : n ≤ 200) (hT : TI τ t n h) (T_x9 : τ x9 = (1, 0)) (L : List Nat) (B : Nat) (hL : ∀ a ∈ L, τ a = (13, 0)) (hL2 : ∀ a, τ a = (13, 0) → a ∈ L) (hB : nl L h ≤ B) : MetD l y_Di_commit (.code y_Di_commit b_Di_commit 2 (some .int) :: lw_g) { frames := 10, cells := B, slots := 2048 * B, locals := 234 } (hP (kE D t G ak av) D vwCl G h [.ref x9]) (fun kk nn => hQi D vwCl G (fun r h' => nn = 2048 * kk ∧ kk + nl L h' ≤ nl L h ∧ TI τ t n h' ∧ kf τ [(13, 0), (11, 0), (3, 0), (5, 0), (10, 0), (9, 0), (1, 0)] [] h h' ∧ knp τ 0 h h' ∧ spz h' x9 = spz h x9)) G.P := by
  refine MetD.ofW (cc := b_Di_commit) (maxL := 2) (ret := (some .int)) (by decide) rfl ?_
  intro p e s m args below meth c s₁ Bd hml hv
  obtain ⟨ha, hE, hH⟩ := hv
  have hx := Bd.exec
  have hb := Bd.bytes
  have hr := Bd.returns
  have hts : ∀ w ∈ lw_g, w.before args s = true := fun w hw => atoms_spec (ws := (.code y_Di_commit b_Di_commit 2 (some .int) :: lw_g)) Bd.pre w (List.mem_cons_of_mem _ hw)
  have hown : s.vm.findClass R_Di = some m.cls := findClass_of_methodNamed Bd.named
  have hlocks := Bd.notSynchronized
  have hK := hE.1
  have hH0 := hH
  have hLo : hLc G.P [] := hLc_nil
  have hz : s.heap.size ≤ s.heap.size := Nat.le_refl _
  have hl := lv_entry [.ref x9] (n := 2) (Nat.le_of_ble_eq_true rfl)
  rw [show entryFrame m args 2 = F0 m 0 ((lg_sl [.ref x9] ++ List.replicate (2 - (lg_sl [.ref x9]).length) Slot.unset).toArray) [] from (by rw [ha]; exact lg_entry_eq m [.ref x9] 2)]
  generalize (lg_sl [.ref x9] ++ List.replicate (2 - (lg_sl [.ref x9]).length) Slot.unset).toArray = ls at hl ⊢
  have hl : lv_has ls 2 [(0, .ref x9)] := hl
  have hkf : kf τ [(13, 0), (11, 0), (3, 0), (5, 0), (10, 0), (9, 0), (1, 0)] [] h h := kf_rf
  have hnl : 0 + nl L h ≤ nl L h := Nat.le_of_eq (Nat.zero_add _)
  have hnp_0 : knp τ 0 h h := knp_rf
  have hsp : spz h x9 = spz h x9 := rfl
  refine lv_aload_n hx hb d_Di_commit_0 rfl (lv_at hl 0 rfl) ?_
  obtain ⟨v_1, v_3, v_5, v_7, v_9, v_11, v_12, v_14, v_16, F_x9, c_2, c_4, c_6, c_8, c_10, c_13, c_15, c_17⟩ := TI_disc hT T_x9
  refine hm_get (ci := 8) (v := .ref v_1) (C := R_Di) (T := F_Di) (N := 9) hx hb hts ig_Di hown hK hH F_x9 rfl 0 (by decide) (hts _ mw_430) (fun _ h9 => h9) rfl d_Di_commit_1 ?_
  obtain ⟨v_18, v_20, F_v_1, c_19, c_21⟩ := TI_wri hT c_2
  refine hm_get (ci := 7) (v := .ref v_18) (C := R_Wr) (T := F_Wr) (N := 2) hx hb hts ig_Wr hown hK hH F_v_1 rfl 0 (by decide) (hts _ mw_431) (fun _ h9 => h9) rfl d_Di_commit_4 ?_
  obtain ⟨v_22, v_23, v_25, F_v_18, c_24⟩ := TI_pow hT c_19
  refine hm_get (ci := 4) (v := .int v_23) (C := R_Po) (T := F_Po) (N := 3) hx hb hts ig_Po hown hK hH F_v_18 rfl 1 (by decide) (hts _ mw_442) (fun _ h9 => h9) rfl d_Di_commit_7 ?_
  refine lv_if_eq (tgt := 16) hx hb d_Di_commit_10 (by decide) (fun hc_26 => ?_) (fun hc_26 => ?_)
  · skip
    have ic_27 : v_23.toInt = 0 := congrArg Int32.toInt hc_26
    refine lv_aload_n hx hb d_Di_commit_16 rfl (lv_at hl 0 rfl) ?_
    refine hm_get (ci := 8) (v := .ref v_1) (C := R_Di) (T := F_Di) (N := 9) hx hb hts ig_Di hown hK hH F_x9 rfl 0 (by decide) (hts _ mw_430) (fun _ h9 => h9) rfl d_Di_commit_17 ?_
    refine lv_aload_n hx hb d_Di_commit_20 rfl (lv_at hl 0 rfl) ?_
    refine hm_get (ci := 8) (v := .ref v_5) (C := R_Di) (T := F_Di) (N := 9) hx hb hts ig_Di hown hK hH F_x9 rfl 2 (by decide) (hts _ mw_443) (fun _ h9 => h9) rfl d_Di_commit_21 ?_
    refine lv_aload_n hx hb d_Di_commit_24 rfl (lv_at hl 0 rfl) ?_
    refine hm_get (ci := 8) (v := .ref v_7) (C := R_Di) (T := F_Di) (N := 9) hx hb hts ig_Di hown hK hH F_x9 rfl 3 (by decide) (hts _ mw_425) (fun _ h9 => h9) rfl d_Di_commit_25 ?_
    refine hm_callDi (va_runVD (As := [.ref v_5, .ref v_7]) (b := v_1) (rest := []) ⟨hx, hb, hml, hown, hts⟩ (t_newFiles l D t G ak av h τ n 0 v_1 v_5 v_7 hn hT c_2 c_6 c_8 L (B - 0) hL hL2 (by omega)) ⟨cw9B 2 hts mw_486 mw_487 mw_275 rfl rfl (by decide +kernel) ⟨Nat.le_of_ble_eq_true rfl, Nat.le_of_ble_eq_true rfl⟩, hts _ mw_488, hts _ mw_489⟩ (hP_V (q := (R_Wr, F_Wr, 2)) kE_ok hE hK hH F_v_1 rfl) rfl rfl hl.1 rfl (lv_room (Nat.le_of_ble_eq_true rfl)) d_Di_commit_28 ⟨show 0 + (B - 0) ≤ B by omega, show 0 + 2048 * (B - 0) ≤ 2048 * B by omega⟩) hLo (fun r_28 h_29 H_30 locs k_33 n_34 hp_32 hH z_31 hLo => ?_)
    have hz : s.heap.size ≤ H_30.size := Nat.le_trans hz z_31
    obtain ⟨rfl, hnl2, hT, kf_35, xk_36⟩ := hp_32
    have F_x9 : h_29 x9 = some (.inr (8, [.ref v_1, .ref v_3, .ref v_5, .ref v_7, va_rf v_9, .int v_11, .int v_12, .ref v_14, .ref v_16])) := kf_at kf_35 T_x9 (by decide) (tnc (by decide) (tnc (by decide) (tnc (by decide) (tnc (by decide) (tnc (by decide) tn0))))) nm0 F_x9
    have F_v_1 : h_29 v_1 = some (.inr (7, [.ref v_18, .ref v_20])) := kf_at kf_35 c_2 (by decide) (tnc (by decide) (tnc (by decide) (tnc (by decide) (tnc (by decide) (tnc (by decide) tn0))))) nm0 F_v_1
    have hnl : (0 + k_33) + nl L h_29 ≤ nl L h := by omega
    have hnp_0 : knp τ 0 h h_29 := knp_tr hnp_0 xk_36
    have hsp : spz h_29 x9 = spz h x9 := spz_kf hsp kf_35 T_x9 (tnc (by decide) (tnc (by decide) (tnc (by decide) (tnc (by decide) (tnc (by decide) tn0))))) (List.forall_mem_nil _)
    have hkf : kf τ [(13, 0), (11, 0), (3, 0), (5, 0), (10, 0), (9, 0), (1, 0)] [] h h_29 := kf_tr hkf kf_35 (List.forall_mem_cons.mpr ⟨List.mem_cons_self, List.forall_mem_cons.mpr ⟨(List.mem_cons_of_mem _ List.mem_cons_self), List.forall_mem_cons.mpr ⟨(List.mem_cons_of_mem _ (List.mem_cons_of_mem _ List.mem_cons_self)), List.forall_mem_cons.mpr ⟨(List.mem_cons_of_mem _ (List.mem_cons_of_mem _ (List.mem_cons_of_mem _ List.mem_cons_self))), List.forall_mem_cons.mpr ⟨(List.mem_cons_of_mem _ (List.mem_cons_of_mem _ (List.mem_cons_of_mem _ (List.mem_cons_of_mem _ List.mem_cons_self)))), List.forall_mem_nil _⟩⟩⟩⟩⟩) (List.forall_mem_nil _)
    refine lv_istore_n (lv' := [(1, .int r_28), (0, .ref x9)]) hx hb d_Di_commit_31 rfl hl (by decide) rfl (fun ls hl => ?_)
    refine lv_iload_n hx hb d_Di_commit_32 rfl (lv_at hl 0 rfl) ?_
    refine lv_iconst (v := 1) hx hb d_Di_commit_33 (by decide) ?_
    refine lv_icmp_ne (tgt := 59) hx hb d_Di_commit_34 (by decide) (fun hc_38 => ?_) (fun hc_38 => ?_)
    · skip
      refine lv_iload_n hx hb d_Di_commit_59 rfl (lv_at hl 0 rfl) ?_
      refine lv_iconst (v := 1) hx hb d_Di_commit_60 (by decide) ?_
      refine lv_icmp_eq (tgt := 66) hx hb d_Di_commit_61 (by decide) (fun hc_39 => ?_) (fun hc_39 => ?_)
      · skip
        have ic_40 : r_28.toInt = 1 := congrArg Int32.toInt hc_39
        refine lv_aload_n hx hb d_Di_commit_66 rfl (lv_at hl 1 rfl) ?_
        refine lv_dup hx hb d_Di_commit_67 rfl ?_
        refine hm_get (ci := 8) (v := .int v_11) (C := R_Di) (T := F_Di) (N := 9) hx hb hts ig_Di hown hK hH F_x9 rfl 5 (by decide) (hts _ mw_490) (fun _ h9 => h9) rfl d_Di_commit_68 ?_
        refine lv_iconst (v := 1) hx hb d_Di_commit_71 (by decide) ?_
        refine lv_iadd hx hb d_Di_commit_72 ?_
        refine lv_topi (fun v_41 e_42 => ?_)
        refine hm_put (ci := 8) (v := .int v_41) (ty := .int) (C := R_Di) (T := F_Di) (N := 9) hx hb hts ig_Di t_Di tk_Di nm_Di hown hK hH hLo F_x9 rfl 5 (by decide) (hts _ mw_490) (fun _ h9 => h9) rfl (by decide +kernel) rfl rfl (Nat.le_of_ble_eq_true rfl) d_Di_commit_73 (fun H_43 locs hH z_44 hLo => ?_)
        have hz : s.heap.size ≤ H_43.size := by rw [z_44]; exact hz
        obtain ⟨h_45, e_46⟩ : ∃ z, z = hu h_29 x9 (.inr (8, [.ref v_1, .ref v_3, .ref v_5, .ref v_7, va_rf v_9, .int v_41, .int v_12, .ref v_14, .ref v_16])) := ⟨_, rfl⟩
        have hH : hm D vwCl G h_45 H_43 := by rw [e_46]; exact hH
        have F_v_1 : h_45 v_1 = some (.inr (7, [.ref v_18, .ref v_20])) := by rw [e_46, hu_n (tne c_2 T_x9 (by decide))]; exact F_v_1
        have hOld := F_x9
        have F_x9 : h_45 x9 = some (.inr (8, [.ref v_1, .ref v_3, .ref v_5, .ref v_7, va_rf v_9, .int v_41, .int v_12, .ref v_14, .ref v_16])) := by rw [e_46]; exact hu_s _ _ _
        have hT : TI τ t n h_45 := by rw [e_46]; exact TI_put hT T_x9 (by decide) ⟨v_1, v_3, v_5, v_7, v_9, v_41, v_12, v_14, v_16, rfl, c_2, c_4, c_6, c_8, c_10, c_13, c_15, c_17⟩
        have hkf : kf τ [(13, 0), (11, 0), (3, 0), (5, 0), (10, 0), (9, 0), (1, 0)] [] h h_45 := by rw [e_46]; exact kf_put hkf T_x9 (List.mem_cons_of_mem _ (List.mem_cons_of_mem _ (List.mem_cons_of_mem _ (List.mem_cons_of_mem _ (List.mem_cons_of_mem _ (List.mem_cons_of_mem _ List.mem_cons_self))))))
        have hnl : (0 + k_33) + nl L h_45 ≤ nl L h := Nat.le_trans (Nat.add_le_add_left (nl_mono hL (by rw [e_46]; exact nlp_put2 nlp_rf (fun z => by have := z.symm.trans T_x9; simp at this))) _) hnl
        have hnp_0 : knp τ 0 h h_45 := by rw [e_46]; exact knp_put2 hnp_0 (by rw [T_x9]; decide)
        have hsp : spz h_45 x9 = spz h x9 := by rw [e_46]; exact spz_put hsp hOld
        refine lv_aload_n hx hb d_Di_commit_76 rfl (lv_at hl 1 rfl) ?_
        refine hm_get (ci := 8) (v := .int v_41) (C := R_Di) (T := F_Di) (N := 9) hx hb hts ig_Di hown hK hH F_x9 rfl 5 (by decide) (hts _ mw_490) (fun _ h9 => h9) rfl d_Di_commit_77 ?_
        refine W.toD ?_
        exact W.iret (v := v_41) hx hb hr (fun t9 ht hW => ⟨v_41, h_45, rfl, ⟨(by omega), (by omega), hT, hkf, hnp_0, hsp⟩, by rw [ht]; exact hH, by rw [ht]; exact hz⟩) hLo d_Di_commit_80
      · skip
        refine lv_iload_n hx hb d_Di_commit_64 rfl (lv_at hl 0 rfl) ?_
        refine W.toD ?_
        exact W.iret (v := r_28) hx hb hr (fun t9 ht hW => ⟨r_28, h_29, rfl, ⟨(by omega), (by omega), hT, hkf, hnp_0, hsp⟩, by rw [ht]; exact hH, by rw [ht]; exact hz⟩) hLo d_Di_commit_65
    · skip
      have ic_47 : r_28.toInt = 1 := congrArg Int32.toInt hc_38
      refine lv_aload_n hx hb d_Di_commit_37 rfl (lv_at hl 1 rfl) ?_
      refine hm_get (ci := 8) (v := .ref v_1) (C := R_Di) (T := F_Di) (N := 9) hx hb hts ig_Di hown hK hH F_x9 rfl 0 (by decide) (hts _ mw_430) (fun _ h9 => h9) rfl d_Di_commit_38 ?_
      refine lv_aload_n hx hb d_Di_commit_41 rfl (lv_at hl 1 rfl) ?_
      refine hm_get (ci := 8) (v := .ref v_5) (C := R_Di) (T := F_Di) (N := 9) hx hb hts ig_Di hown hK hH F_x9 rfl 2 (by decide) (hts _ mw_443) (fun _ h9 => h9) rfl d_Di_commit_42 ?_
      refine lv_aload_n hx hb d_Di_commit_45 rfl (lv_at hl 1 rfl) ?_
      refine hm_get (ci := 8) (v := .ref v_7) (C := R_Di) (T := F_Di) (N := 9) hx hb hts ig_Di hown hK hH F_x9 rfl 3 (by decide) (hts _ mw_425) (fun _ h9 => h9) rfl d_Di_commit_46 ?_
      refine lv_aload_n hx hb d_Di_commit_49 rfl (lv_at hl 1 rfl) ?_
      refine hm_get (ci := 8) (v := .int v_11) (C := R_Di) (T := F_Di) (N := 9) hx hb hts ig_Di hown hK hH F_x9 rfl 5 (by decide) (hts _ mw_490) (fun _ h9 => h9) rfl d_Di_commit_50 ?_
      refine lv_iconst (v := 1) hx hb d_Di_commit_53 (by decide) ?_
      refine lv_iadd hx hb d_Di_commit_54 ?_
      refine hm_callDi (va_runVD (As := [.ref v_5, .ref v_7, .int (v_11 + 1)]) (b := v_1) (rest := []) ⟨hx, hb, hml, hown, hts⟩ (t_wsess l D t G ak av h_29 τ n 0 v_1 v_5 v_7 (v_11 + 1) hn hT c_2 c_6 c_8 L (B - (0 + k_33)) hL hL2 (by omega)) ⟨cw9B 3 hts mw_491 mw_492 mw_275 rfl rfl (by decide +kernel) ⟨Nat.le_of_ble_eq_true rfl, Nat.le_of_ble_eq_true rfl⟩, hts _ mw_493, hts _ mw_494⟩ (hP_V (q := (R_Wr, F_Wr, 2)) kE_ok hE hK hH F_v_1 rfl) rfl rfl hl.1 rfl (lv_room (Nat.le_of_ble_eq_true rfl)) d_Di_commit_55 ⟨show (0 + k_33) + (B - (0 + k_33)) ≤ B by omega, show (0 + 2048 * k_33) + 2048 * (B - (0 + k_33)) ≤ 2048 * B by omega⟩) hLo (fun r_48 h_49 H_50 locs k_53 n_54 hp_52 hH z_51 hLo => ?_)
      have hz : s.heap.size ≤ H_50.size := Nat.le_trans hz z_51
      obtain ⟨rfl, hnl2, hT, kf_55, xk_56⟩ := hp_52
      have F_x9 : h_49 x9 = some (.inr (8, [.ref v_1, .ref v_3, .ref v_5, .ref v_7, va_rf v_9, .int v_11, .int v_12, .ref v_14, .ref v_16])) := kf_at kf_55 T_x9 (by decide) (tnc (by decide) (tnc (by decide) (tnc (by decide) (tnc (by decide) (tnc (by decide) (tnc (by decide) tn0)))))) nm0 F_x9
      have F_v_1 : h_49 v_1 = some (.inr (7, [.ref v_18, .ref v_20])) := kf_at kf_55 c_2 (by decide) (tnc (by decide) (tnc (by decide) (tnc (by decide) (tnc (by decide) (tnc (by decide) (tnc (by decide) tn0)))))) nm0 F_v_1
      have hnl : ((0 + k_33) + k_53) + nl L h_49 ≤ nl L h := by omega
      have hnp_0 : knp τ 0 h h_49 := knp_tr hnp_0 xk_56
      have hsp : spz h_49 x9 = spz h x9 := spz_kf hsp kf_55 T_x9 (tnc (by decide) (tnc (by decide) (tnc (by decide) (tnc (by decide) (tnc (by decide) (tnc (by decide) tn0)))))) (List.forall_mem_nil _)
      have hkf : kf τ [(13, 0), (11, 0), (3, 0), (5, 0), (10, 0), (9, 0), (1, 0)] [] h h_49 := kf_tr hkf kf_55 (List.forall_mem_cons.mpr ⟨List.mem_cons_self, List.forall_mem_cons.mpr ⟨(List.mem_cons_of_mem _ List.mem_cons_self), List.forall_mem_cons.mpr ⟨(List.mem_cons_of_mem _ (List.mem_cons_of_mem _ List.mem_cons_self)), List.forall_mem_cons.mpr ⟨(List.mem_cons_of_mem _ (List.mem_cons_of_mem _ (List.mem_cons_of_mem _ List.mem_cons_self))), List.forall_mem_cons.mpr ⟨(List.mem_cons_of_mem _ (List.mem_cons_of_mem _ (List.mem_cons_of_mem _ (List.mem_cons_of_mem _ List.mem_cons_self)))), List.forall_mem_cons.mpr ⟨(List.mem_cons_of_mem _ (List.mem_cons_of_mem _ (List.mem_cons_of_mem _ (List.mem_cons_of_mem _ (List.mem_cons_of_mem _ List.mem_cons_self))))), List.forall_mem_nil _⟩⟩⟩⟩⟩⟩) (List.forall_mem_nil _)
      refine lv_istore_n (lv' := [(1, .int r_48), (0, .ref x9)]) hx hb d_Di_commit_58 rfl hl (by decide) rfl (fun ls hl => ?_)
      refine lv_iload_n hx hb d_Di_commit_59 rfl (lv_at hl 0 rfl) ?_
      refine lv_iconst (v := 1) hx hb d_Di_commit_60 (by decide) ?_
      refine lv_icmp_eq (tgt := 66) hx hb d_Di_commit_61 (by decide) (fun hc_58 => ?_) (fun hc_58 => ?_)
      · skip
        have ic_59 : r_48.toInt = 1 := congrArg Int32.toInt hc_58
        refine lv_aload_n hx hb d_Di_commit_66 rfl (lv_at hl 1 rfl) ?_
        refine lv_dup hx hb d_Di_commit_67 rfl ?_
        refine hm_get (ci := 8) (v := .int v_11) (C := R_Di) (T := F_Di) (N := 9) hx hb hts ig_Di hown hK hH F_x9 rfl 5 (by decide) (hts _ mw_490) (fun _ h9 => h9) rfl d_Di_commit_68 ?_
        refine lv_iconst (v := 1) hx hb d_Di_commit_71 (by decide) ?_
        refine lv_iadd hx hb d_Di_commit_72 ?_
        refine lv_topi (fun v_60 e_61 => ?_)
        refine hm_put (ci := 8) (v := .int v_60) (ty := .int) (C := R_Di) (T := F_Di) (N := 9) hx hb hts ig_Di t_Di tk_Di nm_Di hown hK hH hLo F_x9 rfl 5 (by decide) (hts _ mw_490) (fun _ h9 => h9) rfl (by decide +kernel) rfl rfl (Nat.le_of_ble_eq_true rfl) d_Di_commit_73 (fun H_62 locs hH z_63 hLo => ?_)
        have hz : s.heap.size ≤ H_62.size := by rw [z_63]; exact hz
        obtain ⟨h_64, e_65⟩ : ∃ z, z = hu h_49 x9 (.inr (8, [.ref v_1, .ref v_3, .ref v_5, .ref v_7, va_rf v_9, .int v_60, .int v_12, .ref v_14, .ref v_16])) := ⟨_, rfl⟩
        have hH : hm D vwCl G h_64 H_62 := by rw [e_65]; exact hH
        have F_v_1 : h_64 v_1 = some (.inr (7, [.ref v_18, .ref v_20])) := by rw [e_65, hu_n (tne c_2 T_x9 (by decide))]; exact F_v_1
        have hOld := F_x9
        have F_x9 : h_64 x9 = some (.inr (8, [.ref v_1, .ref v_3, .ref v_5, .ref v_7, va_rf v_9, .int v_60, .int v_12, .ref v_14, .ref v_16])) := by rw [e_65]; exact hu_s _ _ _
        have hT : TI τ t n h_64 := by rw [e_65]; exact TI_put hT T_x9 (by decide) ⟨v_1, v_3, v_5, v_7, v_9, v_60, v_12, v_14, v_16, rfl, c_2, c_4, c_6, c_8, c_10, c_13, c_15, c_17⟩
        have hkf : kf τ [(13, 0), (11, 0), (3, 0), (5, 0), (10, 0), (9, 0), (1, 0)] [] h h_64 := by rw [e_65]; exact kf_put hkf T_x9 (List.mem_cons_of_mem _ (List.mem_cons_of_mem _ (List.mem_cons_of_mem _ (List.mem_cons_of_mem _ (List.mem_cons_of_mem _ (List.mem_cons_of_mem _ List.mem_cons_self))))))
        have hnl : ((0 + k_33) + k_53) + nl L h_64 ≤ nl L h := Nat.le_trans (Nat.add_le_add_left (nl_mono hL (by rw [e_65]; exact nlp_put2 nlp_rf (fun z => by have := z.symm.trans T_x9; simp at this))) _) hnl
        have hnp_0 : knp τ 0 h h_64 := by rw [e_65]; exact knp_put2 hnp_0 (by rw [T_x9]; decide)
        have hsp : spz h_64 x9 = spz h x9 := by rw [e_65]; exact spz_put hsp hOld
        refine lv_aload_n hx hb d_Di_commit_76 rfl (lv_at hl 1 rfl) ?_
        refine hm_get (ci := 8) (v := .int v_60) (C := R_Di) (T := F_Di) (N := 9) hx hb hts ig_Di hown hK hH F_x9 rfl 5 (by decide) (hts _ mw_490) (fun _ h9 => h9) rfl d_Di_commit_77 ?_
        refine W.toD ?_
        exact W.iret (v := v_60) hx hb hr (fun t9 ht hW => ⟨v_60, h_64, rfl, ⟨(by omega), (by omega), hT, hkf, hnp_0, hsp⟩, by rw [ht]; exact hH, by rw [ht]; exact hz⟩) hLo d_Di_commit_80
      · skip
        refine lv_iload_n hx hb d_Di_commit_64 rfl (lv_at hl 0 rfl) ?_
        refine W.toD ?_
        exact W.iret (v := r_48) hx hb hr (fun t9 ht hW => ⟨r_48, h_49, rfl, ⟨(by omega), (by omega), hT, hkf, hnp_0, hsp⟩, by rw [ht]; exact hH, by rw [ht]; exact hz⟩) hLo d_Di_commit_65
  · skip
    refine lv_bipush (v := -4) hx hb d_Di_commit_13 (by decide) ?_
    refine W.toD ?_
    exact W.iret (v := (-4)) hx hb hr (fun t9 ht hW => ⟨(-4), h, rfl, ⟨(by omega), (by omega), hT, hkf, hnp_0, hsp⟩, by rw [ht]; exact hH, by rw [ht]; exact hz⟩) hLo d_Di_commit_15

set_option maxHeartbeats 4000000 in
set_option maxRecDepth 100000 in
theorem t_parNo2 (l : Launch) (D : va_G) (t : Nat → ClassId) (G : hG) (ak av : Nat → Nat) (h : hM) (τ : tM) (n f : Nat) (d9 : Nat) (hn : n ≤ 200) (hT : TI τ t n h) (T_d9 : τ d9 = (10, f)) : Met l y_No_parentNumber (.code y_No_parentNumber b_No_parentNumber 1 (some .int) :: lw_g) { frames := 0, cells := 0, slots := 0, locals := 0 } (hP (kE D t G ak av) D vwCl G h [.ref d9]) (hQi D vwCl G (fun r h' => pnP h d9 r ∧ h = h')) 0 0 nof := by
  refine Met.ofW (cc := b_No_parentNumber) (maxL := 1) (ret := (some .int)) (by decide) rfl ?_
  intro p e s m args below meth c s₁ Bd hml hv
  obtain ⟨ha, hE, hH⟩ := hv
  have hx := Bd.exec
  have hb := Bd.bytes
  have hr := Bd.returns
  have hts : ∀ w ∈ lw_g, w.before args s = true := fun w hw => atoms_spec (ws := (.code y_No_parentNumber b_No_parentNumber 1 (some .int) :: lw_g)) Bd.pre w (List.mem_cons_of_mem _ hw)
  have hown : s.vm.findClass R_No = some m.cls := findClass_of_methodNamed Bd.named
  have hlocks := Bd.notSynchronized
  have hK := hE.1
  have hH0 := hH
  have hLo : hLc nof [] := hLc_nil
  have hz : s.heap.size ≤ s.heap.size := Nat.le_refl _
  have hl := lv_entry [.ref d9] (n := 1) (Nat.le_of_ble_eq_true rfl)
  rw [show entryFrame m args 1 = F0 m 0 ((lg_sl [.ref d9] ++ List.replicate (1 - (lg_sl [.ref d9]).length) Slot.unset).toArray) [] from (by rw [ha]; exact lg_entry_eq m [.ref d9] 1)]
  generalize (lg_sl [.ref d9] ++ List.replicate (1 - (lg_sl [.ref d9]).length) Slot.unset).toArray = ls at hl ⊢
  have hl : lv_has ls 1 [(0, .ref d9)] := hl
  refine lv_aload_n hx hb d_No_parentNumber_0 rfl (lv_at hl 0 rfl) ?_
  obtain ⟨v_1, v_2, v_4, v_6, v_7, v_9, v_10, v_11, v_13, v_14, v_15, F_d9, c_3, c_5, c_8, c_12⟩ := TI_node hT T_d9
  refine hm_get (ci := 1) (v := va_rf v_2) (C := R_No) (T := F_No) (N := 11) hx hb hts ig_No hown hK hH F_d9 rfl 1 (by decide) (hts _ mw_96) (fun _ h9 => h9) rfl d_No_parentNumber_1 ?_
  rcases v_2 with _ | q_16
  · skip
    refine lv_ifnonnullN hx hb d_No_parentNumber_4 ?_
    refine lv_iconst (v := -1) hx hb d_No_parentNumber_7 (by decide) ?_
    refine lv_goto (tgt := 18) hx hb d_No_parentNumber_8 (by decide) ?_
    exact W.iret (v := (-1)) hx hb hr (fun t9 ht hW => ⟨(-1), h, rfl, ⟨(fun p hp => by rw [prt_of F_d9] at hp; cases hp), rfl⟩, by rw [ht]; exact hH, by rw [ht]; exact hz⟩) hLo d_No_parentNumber_18
  · skip
    have T_17 := c_3 q_16 rfl
    refine lv_ifnonnull (tgt := 11) hx hb d_No_parentNumber_4 (by decide) ?_
    refine lv_aload_n hx hb d_No_parentNumber_11 rfl (lv_at hl 0 rfl) ?_
    refine hm_get (ci := 1) (v := .ref q_16) (C := R_No) (T := F_No) (N := 11) hx hb hts ig_No hown hK hH F_d9 rfl 1 (by decide) (hts _ mw_96) (fun _ h9 => h9) rfl d_No_parentNumber_12 ?_
    obtain ⟨v_18, v_19, v_21, v_23, v_24, v_26, v_27, v_28, v_30, v_31, v_32, F_q_16, c_20, c_22, c_25, c_29⟩ := TI_node hT T_17
    refine hm_get (ci := 1) (v := .int v_18) (C := R_No) (T := F_No) (N := 11) hx hb hts ig_No hown hK hH F_q_16 rfl 0 (by decide) (hts _ mw_97) (fun _ h9 => h9) rfl d_No_parentNumber_15 ?_
    exact W.iret (v := v_18) hx hb hr (fun t9 ht hW => ⟨v_18, h, rfl, ⟨(fun p hp => by rw [prt_of (v := some q_16) F_d9] at hp; cases hp; exact ⟨_, nod_of F_q_16⟩), rfl⟩, by rw [ht]; exact hH, by rw [ht]; exact hz⟩) hLo d_No_parentNumber_18
