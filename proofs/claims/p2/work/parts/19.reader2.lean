set_option maxRecDepth 100000 in
theorem mw_352 : Cond.fieldLink R_Re 111 "WriteOnceDisc$Node" "size" "I" ∈ lw_g := lw_gin (List.mem_append_right _ (List.mem_of_getElem? (i := 111) rfl)) (by decide +kernel)
set_option maxRecDepth 100000 in
theorem mw_353 : Cond.fieldLink R_Re 108 "WriteOnceDisc$Node" "sector" "I" ∈ lw_g := lw_gin (List.mem_append_right _ (List.mem_of_getElem? (i := 126) rfl)) (by decide +kernel)
set_option maxRecDepth 100000 in
theorem mw_354 : Cond.methodLink R_Re 171 y_Me_hasRoom ∈ lw_g := lw_gin (List.mem_append_right _ (List.mem_of_getElem? (i := 677) rfl)) (by decide +kernel)
theorem d_Re_hasSectors_0 : decode b_Re_hasSectors 0 = .ok (.aload_n 1, 1) := by decide +kernel
theorem d_Re_hasSectors_1 : decode b_Re_hasSectors 1 = .ok (.getfield 111, 3) := by decide +kernel
theorem d_Re_hasSectors_4 : decode b_Re_hasSectors 4 = .ok (.ifCond .lt 28, 3) := by decide +kernel
theorem d_Re_hasSectors_32 : decode b_Re_hasSectors 32 = .ok (.iconst 0, 1) := by decide +kernel
theorem d_Re_hasSectors_33 : decode b_Re_hasSectors 33 = .ok (.ireturn, 1) := by decide +kernel
theorem d_Re_hasSectors_7 : decode b_Re_hasSectors 7 = .ok (.aload_n 1, 1) := by decide +kernel
theorem d_Re_hasSectors_8 : decode b_Re_hasSectors 8 = .ok (.getfield 58, 3) := by decide +kernel
theorem d_Re_hasSectors_11 : decode b_Re_hasSectors 11 = .ok (.ifCond .eq 23, 3) := by decide +kernel
theorem d_Re_hasSectors_34 : decode b_Re_hasSectors 34 = .ok (.aload_n 1, 1) := by decide +kernel
theorem d_Re_hasSectors_35 : decode b_Re_hasSectors 35 = .ok (.getfield 111, 3) := by decide +kernel
theorem d_Re_hasSectors_38 : decode b_Re_hasSectors 38 = .ok (.ifCond .ne 16, 3) := by decide +kernel
theorem d_Re_hasSectors_54 : decode b_Re_hasSectors 54 = .ok (.aload_n 1, 1) := by decide +kernel
theorem d_Re_hasSectors_55 : decode b_Re_hasSectors 55 = .ok (.getfield 111, 3) := by decide +kernel
theorem d_Re_hasSectors_58 : decode b_Re_hasSectors 58 = .ok (.invokestatic 168, 3) := by decide +kernel
theorem d_Re_hasSectors_61 : decode b_Re_hasSectors 61 = .ok (.istore_n 2, 1) := by decide +kernel
theorem d_Re_hasSectors_62 : decode b_Re_hasSectors 62 = .ok (.aload_n 1, 1) := by decide +kernel
theorem d_Re_hasSectors_63 : decode b_Re_hasSectors 63 = .ok (.getfield 108, 3) := by decide +kernel
theorem d_Re_hasSectors_66 : decode b_Re_hasSectors 66 = .ok (.ifCond .lt 18, 3) := by decide +kernel
theorem d_Re_hasSectors_84 : decode b_Re_hasSectors 84 = .ok (.iconst 0, 1) := by decide +kernel
theorem d_Re_hasSectors_85 : decode b_Re_hasSectors 85 = .ok (.ireturn, 1) := by decide +kernel
theorem d_Re_hasSectors_69 : decode b_Re_hasSectors 69 = .ok (.aload_n 0, 1) := by decide +kernel
theorem d_Re_hasSectors_70 : decode b_Re_hasSectors 70 = .ok (.getfield 27, 3) := by decide +kernel
theorem d_Re_hasSectors_73 : decode b_Re_hasSectors 73 = .ok (.aload_n 1, 1) := by decide +kernel
theorem d_Re_hasSectors_74 : decode b_Re_hasSectors 74 = .ok (.getfield 108, 3) := by decide +kernel
theorem d_Re_hasSectors_77 : decode b_Re_hasSectors 77 = .ok (.iload_n 2, 1) := by decide +kernel
theorem d_Re_hasSectors_78 : decode b_Re_hasSectors 78 = .ok (.invokevirtual 171, 3) := by decide +kernel
theorem d_Re_hasSectors_81 : decode b_Re_hasSectors 81 = .ok (.ifCond .ne 5, 3) := by decide +kernel
theorem d_Re_hasSectors_86 : decode b_Re_hasSectors 86 = .ok (.iconst 0, 1) := by decide +kernel
theorem d_Re_hasSectors_87 : decode b_Re_hasSectors 87 = .ok (.istore_n 3, 1) := by decide +kernel
theorem d_Re_hasSectors_88 : decode b_Re_hasSectors 88 = .ok (.iload_n 3, 1) := by decide +kernel
theorem d_Re_hasSectors_89 : decode b_Re_hasSectors 89 = .ok (.iload_n 2, 1) := by decide +kernel
theorem d_Re_hasSectors_90 : decode b_Re_hasSectors 90 = .ok (.if_icmp .ge 27, 3) := by decide +kernel
theorem d_Re_hasSectors_117 : decode b_Re_hasSectors 117 = .ok (.iconst 1, 1) := by decide +kernel
theorem d_Re_hasSectors_118 : decode b_Re_hasSectors 118 = .ok (.ireturn, 1) := by decide +kernel
theorem d_Re_hasSectors_93 : decode b_Re_hasSectors 93 = .ok (.aload_n 0, 1) := by decide +kernel
theorem d_Re_hasSectors_94 : decode b_Re_hasSectors 94 = .ok (.getfield 27, 3) := by decide +kernel
theorem d_Re_hasSectors_97 : decode b_Re_hasSectors 97 = .ok (.aload_n 1, 1) := by decide +kernel
theorem d_Re_hasSectors_98 : decode b_Re_hasSectors 98 = .ok (.getfield 108, 3) := by decide +kernel
theorem d_Re_hasSectors_101 : decode b_Re_hasSectors 101 = .ok (.iload_n 3, 1) := by decide +kernel
theorem d_Re_hasSectors_102 : decode b_Re_hasSectors 102 = .ok (.iadd, 1) := by decide +kernel
theorem d_Re_hasSectors_103 : decode b_Re_hasSectors 103 = .ok (.invokevirtual 69, 3) := by decide +kernel
theorem d_Re_hasSectors_106 : decode b_Re_hasSectors 106 = .ok (.ifCond .ne 5, 3) := by decide +kernel
theorem d_Re_hasSectors_109 : decode b_Re_hasSectors 109 = .ok (.iconst 0, 1) := by decide +kernel
theorem d_Re_hasSectors_110 : decode b_Re_hasSectors 110 = .ok (.ireturn, 1) := by decide +kernel
theorem d_Re_hasSectors_111 : decode b_Re_hasSectors 111 = .ok (.iinc 3 1, 3) := by decide +kernel
theorem d_Re_hasSectors_114 : decode b_Re_hasSectors 114 = .ok (.goto (-26), 3) := by decide +kernel
theorem d_Re_hasSectors_41 : decode b_Re_hasSectors 41 = .ok (.aload_n 1, 1) := by decide +kernel
theorem d_Re_hasSectors_42 : decode b_Re_hasSectors 42 = .ok (.getfield 108, 3) := by decide +kernel
theorem d_Re_hasSectors_45 : decode b_Re_hasSectors 45 = .ok (.ifCond .ne 7, 3) := by decide +kernel
theorem d_Re_hasSectors_52 : decode b_Re_hasSectors 52 = .ok (.iconst 0, 1) := by decide +kernel
theorem d_Re_hasSectors_53 : decode b_Re_hasSectors 53 = .ok (.ireturn, 1) := by decide +kernel
theorem d_Re_hasSectors_48 : decode b_Re_hasSectors 48 = .ok (.iconst 1, 1) := by decide +kernel
theorem d_Re_hasSectors_49 : decode b_Re_hasSectors 49 = .ok (.goto 4, 3) := by decide +kernel
theorem d_Re_hasSectors_14 : decode b_Re_hasSectors 14 = .ok (.aload_n 1, 1) := by decide +kernel
theorem d_Re_hasSectors_15 : decode b_Re_hasSectors 15 = .ok (.getfield 111, 3) := by decide +kernel
theorem d_Re_hasSectors_18 : decode b_Re_hasSectors 18 = .ok (.ifCond .eq 14, 3) := by decide +kernel
theorem d_Re_hasSectors_21 : decode b_Re_hasSectors 21 = .ok (.aload_n 1, 1) := by decide +kernel
theorem d_Re_hasSectors_22 : decode b_Re_hasSectors 22 = .ok (.getfield 111, 3) := by decide +kernel
theorem d_Re_hasSectors_25 : decode b_Re_hasSectors 25 = .ok (.sipush 2048, 3) := by decide +kernel
theorem d_Re_hasSectors_28 : decode b_Re_hasSectors 28 = .ok (.irem, 1) := by decide +kernel
theorem d_Re_hasSectors_29 : decode b_Re_hasSectors 29 = .ok (.ifCond .eq 5, 3) := by decide +kernel
theorem dv9 {x v : Int32} (h : 0 ≤ x.toInt) (hv : v.toInt = x.toInt / 2048) : 0 ≤ v.toInt ∧ v.toInt ≤ 1048575 := by
  have := iUp x
  omega

set_option maxHeartbeats 4000000 in
set_option maxRecDepth 100000 in
theorem t_secFor2 (l : Launch) (D : va_G) (t : Nat → ClassId) (G : hG) (ak av : Nat → Nat) (h : hM) (τ : tM) (n : Nat) (x9 : Int32) (hn : n ≤ 200) (hT : TI τ t n h) : Met l y_Di_sectorsFor (.code y_Di_sectorsFor b_Di_sectorsFor 1 (some .int) :: lw_g) { frames := 0, cells := 0, slots := 0, locals := 0 } (hP (kE D t G ak av) D vwCl G h [.int x9]) (hQi D vwCl G (fun r h' => (0 ≤ x9.toInt → 0 ≤ r.toInt ∧ r.toInt ≤ 1048577 ∧ x9.toInt ≤ 2048 * r.toInt) ∧ h = h')) 0 0 nof := by
  refine Met.ofW (cc := b_Di_sectorsFor) (maxL := 1) (ret := (some .int)) (by decide) rfl ?_
  intro p e s m args below meth c s₁ Bd hml hv
  obtain ⟨ha, hE, hH⟩ := hv
  have hx := Bd.exec
  have hb := Bd.bytes
  have hr := Bd.returns
  have hts : ∀ w ∈ lw_g, w.before args s = true := fun w hw => atoms_spec (ws := (.code y_Di_sectorsFor b_Di_sectorsFor 1 (some .int) :: lw_g)) Bd.pre w (List.mem_cons_of_mem _ hw)
  have hown : s.vm.findClass R_Di = some m.cls := findClass_of_methodNamed Bd.named
  have hlocks := Bd.notSynchronized
  have hK := hE.1
  have hH0 := hH
  have hLo : hLc nof [] := hLc_nil
  have hz : s.heap.size ≤ s.heap.size := Nat.le_refl _
  have hl := lv_entry [.int x9] (n := 1) (Nat.le_of_ble_eq_true rfl)
  rw [show entryFrame m args 1 = F0 m 0 ((lg_sl [.int x9] ++ List.replicate (1 - (lg_sl [.int x9]).length) Slot.unset).toArray) [] from (by rw [ha]; exact lg_entry_eq m [.int x9] 1)]
  generalize (lg_sl [.int x9] ++ List.replicate (1 - (lg_sl [.int x9]).length) Slot.unset).toArray = ls at hl ⊢
  have hl : lv_has ls 1 [(0, .int x9)] := hl
  refine lv_iload_n hx hb d_Di_sectorsFor_0 rfl (lv_at hl 0 rfl) ?_
  refine lv_sipush (v := 2048) hx hb d_Di_sectorsFor_1 (by decide) ?_
  refine lv_idiv hx hb d_Di_sectorsFor_4 (by decide) ?_
  refine lv_topi (fun v_1 e_2 => ?_)
  have id_3 : 0 ≤ x9.toInt → v_1.toInt = x9.toInt / 2048 := fun h9 => by rw [e_2]; exact i_div (d := 2048) (by decide) h9
  refine lv_iload_n hx hb d_Di_sectorsFor_5 rfl (lv_at hl 0 rfl) ?_
  refine lv_sipush (v := 2048) hx hb d_Di_sectorsFor_6 (by decide) ?_
  refine lv_irem hx hb d_Di_sectorsFor_9 (by decide) ?_
  refine lv_topi (fun v_4 e_5 => ?_)
  have id_6 : 0 ≤ x9.toInt → v_4.toInt = x9.toInt % 2048 := fun h9 => by rw [e_5]; exact i_mod (d := 2048) (by decide) h9
  refine lv_if_ne (tgt := 17) hx hb d_Di_sectorsFor_10 (by decide) (fun hc_7 => ?_) (fun hc_7 => ?_)
  · skip
    refine lv_iconst (v := 1) hx hb d_Di_sectorsFor_17 (by decide) ?_
    refine lv_iadd hx hb d_Di_sectorsFor_18 ?_
    refine lv_topi (fun v_8 e_9 => ?_)
    exact W.iret (v := v_8) hx hb hr (fun t9 ht hW => ⟨v_8, h, rfl, ⟨(fun h9 => by
      have hd9 := dv9 h9 (id_3 h9)
      have e9 : v_8.toInt = v_1.toInt + 1 := by rw [e_9]; exact iAddK 1 rfl (by omega) (by omega)
      have hq9 := id_6 h9
      omega), rfl⟩, by rw [ht]; exact hH, by rw [ht]; exact hz⟩) hLo d_Di_sectorsFor_19
  · skip
    have ic_10 : v_4.toInt = 0 := congrArg Int32.toInt hc_7
    refine lv_iconst (v := 0) hx hb d_Di_sectorsFor_13 (by decide) ?_
    refine lv_goto (tgt := 18) hx hb d_Di_sectorsFor_14 (by decide) ?_
    refine lv_iadd hx hb d_Di_sectorsFor_18 ?_
    refine lv_topi (fun v_11 e_12 => ?_)
    exact W.iret (v := v_11) hx hb hr (fun t9 ht hW => ⟨v_11, h, rfl, ⟨(fun h9 => by
      have hd9 := dv9 h9 (id_3 h9)
      have e9 : v_11.toInt = v_1.toInt + 0 := by rw [e_12]; exact iAddK 0 rfl (by omega) (by omega)
      have hq9 := id_6 h9
      omega), rfl⟩, by rw [ht]; exact hH, by rw [ht]; exact hz⟩) hLo d_Di_sectorsFor_19

set_option maxHeartbeats 4000000 in
set_option maxRecDepth 100000 in
theorem t_hasSectors (l : Launch) (D : va_G) (t : Nat → ClassId) (G : hG) (ak av : Nat → Nat) (h : hM) (τ : tM) (n f : Nat) (r9 : Nat) (e9 : Nat) (tb td md nd : Nat) (wp : Int32) (hn : n ≤ 200) (hT : TI τ t n h) (T_r9 : τ r9 = (6, 0)) (T_e9 : τ e9 = (10, f)) (F_r9 : h r9 = some (.inr (5, [.ref tb, .ref td, .ref md, .ref nd, .int wp]))) : Met l y_Re_hasSectors (.code y_Re_hasSectors b_Re_hasSectors 4 (some .boolean) :: lw_g) { frames := 1, cells := 0, slots := 0, locals := 22 } (hP (kE D t G ak av) D vwCl G h [.ref r9, .ref e9]) (hQi D vwCl G (fun r h' => zb r ∧ (r = 1 → rngN n h e9) ∧ h = h')) 0 0 nof := by
  refine Met.ofW (cc := b_Re_hasSectors) (maxL := 4) (ret := (some .boolean)) (by decide) rfl ?_
  intro p e s m args below meth c s₁ Bd hml hv
  obtain ⟨ha, hE, hH⟩ := hv
  have hx := Bd.exec
  have hb := Bd.bytes
  have hr := Bd.returns
  have hts : ∀ w ∈ lw_g, w.before args s = true := fun w hw => atoms_spec (ws := (.code y_Re_hasSectors b_Re_hasSectors 4 (some .boolean) :: lw_g)) Bd.pre w (List.mem_cons_of_mem _ hw)
  have hown : s.vm.findClass R_Re = some m.cls := findClass_of_methodNamed Bd.named
  have hlocks := Bd.notSynchronized
  have hK := hE.1
  have hH0 := hH
  have hLo : hLc nof [] := hLc_nil
  have hz : s.heap.size ≤ s.heap.size := Nat.le_refl _
  have hl := lv_entry [.ref r9, .ref e9] (n := 4) (Nat.le_of_ble_eq_true rfl)
  rw [show entryFrame m args 4 = F0 m 0 ((lg_sl [.ref r9, .ref e9] ++ List.replicate (4 - (lg_sl [.ref r9, .ref e9]).length) Slot.unset).toArray) [] from (by rw [ha]; exact lg_entry_eq m [.ref r9, .ref e9] 4)]
  generalize (lg_sl [.ref r9, .ref e9] ++ List.replicate (4 - (lg_sl [.ref r9, .ref e9]).length) Slot.unset).toArray = ls at hl ⊢
  have hl : lv_has ls 4 [(0, .ref r9), (1, .ref e9)] := hl
  obtain ⟨Tr0, Tr1, Tr2, Tr3⟩ := TJ_rdr (v2 := some md) (v3 := some nd) hT T_r9 F_r9
  have T_md := Tr2 md rfl
  have T_nd := Tr3 nd rfl
  obtain ⟨v_1, v_2, v_4, v_6, v_7, v_9, v_10, v_11, v_13, v_14, v_15, F_e9, c_3, c_5, c_8, c_12⟩ := TI_node hT T_e9
  refine lv_aload_n hx hb d_Re_hasSectors_0 rfl (lv_at hl 1 rfl) ?_
  refine hm_get (ci := 1) (v := .int v_9) (C := R_No) (T := F_No) (N := 11) hx hb hts ig_No hown hK hH F_e9 rfl 5 (by decide) (hts _ mw_352) (fun _ h9 => h9) rfl d_Re_hasSectors_1 ?_
  refine lv_if_lt (tgt := 32) hx hb d_Re_hasSectors_4 (by decide) (fun hc_16 => ?_) (fun hc_16 => ?_)
  · skip
    have ic_17 : v_9.toInt < 0 := iLt hc_16
    refine lv_iconst (v := 0) hx hb d_Re_hasSectors_32 (by decide) ?_
    exact W.zret (v := 0) hx hb hr (by decide) (fun t9 ht hW => ⟨0, h, rfl, ⟨zb0, (fun z => absurd z (by decide)), rfl⟩, by rw [ht]; exact hH, by rw [ht]; exact hz⟩) hLo d_Re_hasSectors_33
  · skip
    have ic_18 : 0 ≤ v_9.toInt := iNl hc_16
    refine lv_aload_n hx hb d_Re_hasSectors_7 rfl (lv_at hl 1 rfl) ?_
    refine hm_get (ci := 1) (v := .int v_4) (C := R_No) (T := F_No) (N := 11) hx hb hts ig_No hown hK hH F_e9 rfl 2 (by decide) (hts _ mw_345) (fun _ h9 => h9) rfl d_Re_hasSectors_8 ?_
    refine lv_if_eq (tgt := 34) hx hb d_Re_hasSectors_11 (by decide) (fun hc_19 => ?_) (fun hc_19 => ?_)
    · skip
      have ic_20 : v_4.toInt = 0 := congrArg Int32.toInt hc_19
      refine lv_aload_n hx hb d_Re_hasSectors_34 rfl (lv_at hl 1 rfl) ?_
      refine hm_get (ci := 1) (v := .int v_9) (C := R_No) (T := F_No) (N := 11) hx hb hts ig_No hown hK hH F_e9 rfl 5 (by decide) (hts _ mw_352) (fun _ h9 => h9) rfl d_Re_hasSectors_35 ?_
      refine lv_if_ne (tgt := 54) hx hb d_Re_hasSectors_38 (by decide) (fun hc_21 => ?_) (fun hc_21 => ?_)
      · skip
        refine lv_aload_n hx hb d_Re_hasSectors_54 rfl (lv_at hl 1 rfl) ?_
        refine hm_get (ci := 1) (v := .int v_9) (C := R_No) (T := F_No) (N := 11) hx hb hts ig_No hown hK hH F_e9 rfl 5 (by decide) (hts _ mw_352) (fun _ h9 => h9) rfl d_Re_hasSectors_55 ?_
        refine hm_callPi (va_runSN (As := [.int v_9]) (rest := []) ⟨hx, hb, hml, hown, hts⟩ (t_secFor2 l D t G ak av h τ n v_9  hn hT ) ⟨cw9N 1 hts mw_99 (nmU hE nM_9) mw_25 rfl rfl (by decide +kernel) ⟨Nat.le_of_ble_eq_true rfl, Nat.le_of_ble_eq_true rfl⟩, hts _ mw_100, trivial⟩ (hP_S kE_ok hE hH) rfl rfl hl.1 rfl (lv_room (Nat.le_of_ble_eq_true rfl)) d_Re_hasSectors_58 ⟨Nat.le_of_ble_eq_true rfl, Nat.le_of_ble_eq_true rfl⟩) (fun r_22 h_23 H_24 hp_26  hH z_25 => ?_)
        have hz : s.heap.size ≤ H_24.size := Nat.le_trans hz z_25
        obtain ⟨xp_27, rfl⟩ := hp_26
        refine lv_istore_n (lv' := [(2, .int r_22), (0, .ref r9), (1, .ref e9)]) hx hb d_Re_hasSectors_61 rfl hl (by decide) rfl (fun ls hl => ?_)
        refine lv_aload_n hx hb d_Re_hasSectors_62 rfl (lv_at hl 2 rfl) ?_
        refine hm_get (ci := 1) (v := .int v_14) (C := R_No) (T := F_No) (N := 11) hx hb hts ig_No hown hK hH F_e9 rfl 9 (by decide) (hts _ mw_353) (fun _ h9 => h9) rfl d_Re_hasSectors_63 ?_
        refine lv_if_lt (tgt := 84) hx hb d_Re_hasSectors_66 (by decide) (fun hc_28 => ?_) (fun hc_28 => ?_)
        · skip
          have ic_29 : v_14.toInt < 0 := iLt hc_28
          refine lv_iconst (v := 0) hx hb d_Re_hasSectors_84 (by decide) ?_
          exact W.zret (v := 0) hx hb hr (by decide) (fun t9 ht hW => ⟨0, h, rfl, ⟨zb0, (fun z => absurd z (by decide)), rfl⟩, by rw [ht]; exact hH, by rw [ht]; exact hz⟩) hLo d_Re_hasSectors_85
        · skip
          have ic_30 : 0 ≤ v_14.toInt := iNl hc_28
          refine lv_aload_n hx hb d_Re_hasSectors_69 rfl (lv_at hl 1 rfl) ?_
          refine hm_get (ci := 5) (v := .ref md) (C := R_Re) (T := F_Re) (N := 5) hx hb hts ig_Re hown hK hH F_r9 rfl 2 (by decide) (hts _ mw_329) (fun _ h9 => h9) rfl d_Re_hasSectors_70 ?_
          refine lv_aload_n hx hb d_Re_hasSectors_73 rfl (lv_at hl 2 rfl) ?_
          refine hm_get (ci := 1) (v := .int v_14) (C := R_No) (T := F_No) (N := 11) hx hb hts ig_No hown hK hH F_e9 rfl 9 (by decide) (hts _ mw_353) (fun _ h9 => h9) rfl d_Re_hasSectors_74 ?_
          refine lv_iload_n hx hb d_Re_hasSectors_77 rfl (lv_at hl 0 rfl) ?_
          obtain ⟨v_31, v_33, F_md, c_32⟩ := TI_med hT T_md
          refine hm_callPi (va_runV (As := [.int v_14, .int r_22]) (b := md) (rest := []) ⟨hx, hb, hml, hown, hts⟩ (t_hasRoom l D t G ak av h τ n md v_14 r_22  hn hT T_md) ⟨cw9B 2 hts mw_270 mw_354 mw_32 rfl rfl (by decide +kernel) ⟨Nat.le_of_ble_eq_true rfl, Nat.le_of_ble_eq_true rfl⟩, hts _ mw_272, hts _ mw_273⟩ (hP_V (q := (R_Me, F_Me, 2)) kE_ok hE hK hH F_md rfl) rfl rfl hl.1 rfl (lv_room (Nat.le_of_ble_eq_true rfl)) d_Re_hasSectors_78 ⟨Nat.le_of_ble_eq_true rfl, Nat.le_of_ble_eq_true rfl⟩) (fun r_34 h_35 H_36 hp_38  hH z_37 => ?_)
          have hz : s.heap.size ≤ H_36.size := Nat.le_trans hz z_37
          obtain ⟨c_39, xp_40, rfl⟩ := hp_38
          rcases c_39 with rfl | rfl
          · skip
            refine lv_if_ne (tgt := 86) hx hb d_Re_hasSectors_81 (by decide) (fun hc_41 => absurd hc_41 (by decide)) (fun hc_41 => ?_)
            refine lv_iconst (v := 0) hx hb d_Re_hasSectors_84 (by decide) ?_
            exact W.zret (v := 0) hx hb hr (by decide) (fun t9 ht hW => ⟨0, h, rfl, ⟨zb0, (fun z => absurd z (by decide)), rfl⟩, by rw [ht]; exact hH, by rw [ht]; exact hz⟩) hLo d_Re_hasSectors_85
          · skip
            refine lv_if_ne (tgt := 86) hx hb d_Re_hasSectors_81 (by decide) (fun hc_42 => ?_) (fun hc_42 => absurd hc_42 (by decide))
            have hrg9 : 0 ≤ v_14.toInt ∧ 0 ≤ v_9.toInt ∧ v_14.toInt * 2048 + v_9.toInt ≤ n * 2048 := by
              have hs9 := xp_27 (by omega)
              have hq9 := xp_40 rfl
              have hn9 : (nI n).toInt = n := nI_toInt (by omega)
              rw [iSubP (by omega) (by omega)] at hq9
              omega
            refine lv_iconst (v := 0) hx hb d_Re_hasSectors_86 (by decide) ?_
            refine lv_istore_n (lv' := [(3, .int 0), (2, .int r_22), (0, .ref r9), (1, .ref e9)]) hx hb d_Re_hasSectors_87 rfl hl (by decide) rfl (fun ls hl => ?_)
            refine hm_loop (fun k88 ls H locs hh88 => ∃ (i9 : Int32), k88 = mU i9 ∧ lv_has ls 4 [(0, .ref r9), (1, .ref e9), (2, .int r_22), (3, .int i9)] ∧ hm D vwCl G hh88 H ∧ s.heap.size ≤ H.size ∧ hLc nof locs ∧ (h = hh88) ∧ (0 ≤ i9.toInt)) ?_ (hh := h) ⟨0, rfl, (lv_sub hl [2, 3, 1, 0] rfl), hH, hz, hLo, rfl, (by decide)⟩
            rintro k88 ls H locs hh88 ⟨i9, hk88, hl, hH, hz, hLo, rfl, I_i9⟩ ih88
            refine lv_iload_n hx hb d_Re_hasSectors_88 rfl (lv_at hl 3 rfl) ?_
            refine lv_iload_n hx hb d_Re_hasSectors_89 rfl (lv_at hl 2 rfl) ?_
            refine lv_icmp_ge (tgt := 117) hx hb d_Re_hasSectors_90 (by decide) (fun hc_43 => ?_) (fun hc_43 => ?_)
            · skip
              have ic_44 : r_22.toInt ≤ i9.toInt := iLe hc_43
              refine lv_iconst (v := 1) hx hb d_Re_hasSectors_117 (by decide) ?_
              exact W.zret (v := 1) hx hb hr (by decide) (fun t9 ht hW => ⟨1, h, rfl, ⟨zb1, (fun _ => ⟨_, _, _, _, _, _, _, _, _, _, _, F_e9, fun hd9 => by
                exact hrg9⟩), rfl⟩, by rw [ht]; exact hH, by rw [ht]; exact hz⟩) hLo d_Re_hasSectors_118
            · skip
              have ic_45 : i9.toInt < r_22.toInt := iNe hc_43
              have iu_46 : r_22.toInt < 2147483648 := iUp _
              refine lv_aload_n hx hb d_Re_hasSectors_93 rfl (lv_at hl 0 rfl) ?_
              refine hm_get (ci := 5) (v := .ref md) (C := R_Re) (T := F_Re) (N := 5) hx hb hts ig_Re hown hK hH F_r9 rfl 2 (by decide) (hts _ mw_329) (fun _ h9 => h9) rfl d_Re_hasSectors_94 ?_
              refine lv_aload_n hx hb d_Re_hasSectors_97 rfl (lv_at hl 1 rfl) ?_
              refine hm_get (ci := 1) (v := .int v_14) (C := R_No) (T := F_No) (N := 11) hx hb hts ig_No hown hK hH F_e9 rfl 9 (by decide) (hts _ mw_353) (fun _ h9 => h9) rfl d_Re_hasSectors_98 ?_
              refine lv_iload_n hx hb d_Re_hasSectors_101 rfl (lv_at hl 3 rfl) ?_
              refine lv_iadd hx hb d_Re_hasSectors_102 ?_
              refine hm_callPi (va_runV (As := [.int (v_14 + i9)]) (b := md) (rest := []) ⟨hx, hb, hml, hown, hts⟩ (t_isWritten l D t G ak av h τ n md (v_14 + i9)  hn hT T_md) ⟨cw9B 1 hts mw_48 mw_341 mw_32 rfl rfl (by decide +kernel) ⟨Nat.le_of_ble_eq_true rfl, Nat.le_of_ble_eq_true rfl⟩, hts _ mw_50, hts _ mw_51⟩ (hP_V (q := (R_Me, F_Me, 2)) kE_ok hE hK hH F_md rfl) rfl rfl hl.1 rfl (lv_room (Nat.le_of_ble_eq_true rfl)) d_Re_hasSectors_103 ⟨Nat.le_of_ble_eq_true rfl, Nat.le_of_ble_eq_true rfl⟩) (fun r_47 h_48 H_49 hp_51  hH z_50 => ?_)
              have hz : s.heap.size ≤ H_49.size := Nat.le_trans hz z_50
              obtain ⟨c_52, xp_53, rfl⟩ := hp_51
              rcases xp_53 with rfl | ⟨rfl, ix9, iy9⟩
              · skip
                refine lv_if_ne (tgt := 111) hx hb d_Re_hasSectors_106 (by decide) (fun hc_54 => absurd hc_54 (by decide)) (fun hc_54 => ?_)
                refine lv_iconst (v := 0) hx hb d_Re_hasSectors_109 (by decide) ?_
                exact W.zret (v := 0) hx hb hr (by decide) (fun t9 ht hW => ⟨0, h, rfl, ⟨zb0, (fun z => absurd z (by decide)), rfl⟩, by rw [ht]; exact hH, by rw [ht]; exact hz⟩) hLo d_Re_hasSectors_110
              · skip
                refine lv_if_ne (tgt := 111) hx hb d_Re_hasSectors_106 (by decide) (fun hc_55 => ?_) (fun hc_55 => absurd hc_55 (by decide))
                obtain ⟨j_56, e_57⟩ : ∃ z : Int32, z = i9 + 1 := ⟨_, rfl⟩
                refine lv_iinc (v := j_56) (lv' := [(3, .int j_56), (0, .ref r9), (1, .ref e9), (2, .int r_22)]) hx hb d_Re_hasSectors_111 hl (k := 3) rfl e_57.symm (by decide) rfl (fun ls hl => ?_)
                refine lv_goto (tgt := 88) hx hb d_Re_hasSectors_114 (by decide) ?_
                have is_58 : j_56.toInt = i9.toInt + 1 := by rw [e_57]; exact iAddK 1 rfl (by omega) (by omega)
                exact ih88 (mU j_56) ls _ locs _ (by rw [hk88]; exact mU_lt (by omega)) ⟨j_56, rfl, (lv_sub hl [1, 2, 3, 0] rfl), hH, hz, hLo, rfl, (by omega)⟩
      · skip
        have ic_59 : v_9.toInt = 0 := congrArg Int32.toInt hc_21
        refine lv_aload_n hx hb d_Re_hasSectors_41 rfl (lv_at hl 1 rfl) ?_
        refine hm_get (ci := 1) (v := .int v_14) (C := R_No) (T := F_No) (N := 11) hx hb hts ig_No hown hK hH F_e9 rfl 9 (by decide) (hts _ mw_353) (fun _ h9 => h9) rfl d_Re_hasSectors_42 ?_
        refine lv_if_ne (tgt := 52) hx hb d_Re_hasSectors_45 (by decide) (fun hc_60 => ?_) (fun hc_60 => ?_)
        · skip
          refine lv_iconst (v := 0) hx hb d_Re_hasSectors_52 (by decide) ?_
          exact W.zret (v := 0) hx hb hr (by decide) (fun t9 ht hW => ⟨0, h, rfl, ⟨zb0, (fun z => absurd z (by decide)), rfl⟩, by rw [ht]; exact hH, by rw [ht]; exact hz⟩) hLo d_Re_hasSectors_53
        · skip
          have ic_61 : v_14.toInt = 0 := congrArg Int32.toInt hc_60
          have hnd9 : ¬ v_4 = 1 := fun z => by
            first
              | exact absurd (show v_9 = 0 by assumption) (show ¬ v_9 = 0 by assumption)
              | (have hq9 : (1 : Int32).toInt = 1 := rfl
                 have hz9 := congrArg Int32.toInt z
                 omega)
          refine lv_iconst (v := 1) hx hb d_Re_hasSectors_48 (by decide) ?_
          refine lv_goto (tgt := 53) hx hb d_Re_hasSectors_49 (by decide) ?_
          exact W.zret (v := 1) hx hb hr (by decide) (fun t9 ht hW => ⟨1, h, rfl, ⟨zb1, (fun _ => ⟨_, _, _, _, _, _, _, _, _, _, _, F_e9, fun hd9 => by
            exact absurd hd9 hnd9⟩), rfl⟩, by rw [ht]; exact hH, by rw [ht]; exact hz⟩) hLo d_Re_hasSectors_53
    · skip
      refine lv_aload_n hx hb d_Re_hasSectors_14 rfl (lv_at hl 1 rfl) ?_
      refine hm_get (ci := 1) (v := .int v_9) (C := R_No) (T := F_No) (N := 11) hx hb hts ig_No hown hK hH F_e9 rfl 5 (by decide) (hts _ mw_352) (fun _ h9 => h9) rfl d_Re_hasSectors_15 ?_
      refine lv_if_eq (tgt := 32) hx hb d_Re_hasSectors_18 (by decide) (fun hc_62 => ?_) (fun hc_62 => ?_)
      · skip
        have ic_63 : v_9.toInt = 0 := congrArg Int32.toInt hc_62
        refine lv_iconst (v := 0) hx hb d_Re_hasSectors_32 (by decide) ?_
        exact W.zret (v := 0) hx hb hr (by decide) (fun t9 ht hW => ⟨0, h, rfl, ⟨zb0, (fun z => absurd z (by decide)), rfl⟩, by rw [ht]; exact hH, by rw [ht]; exact hz⟩) hLo d_Re_hasSectors_33
      · skip
        refine lv_aload_n hx hb d_Re_hasSectors_21 rfl (lv_at hl 1 rfl) ?_
        refine hm_get (ci := 1) (v := .int v_9) (C := R_No) (T := F_No) (N := 11) hx hb hts ig_No hown hK hH F_e9 rfl 5 (by decide) (hts _ mw_352) (fun _ h9 => h9) rfl d_Re_hasSectors_22 ?_
        refine lv_sipush (v := 2048) hx hb d_Re_hasSectors_25 (by decide) ?_
        refine lv_irem hx hb d_Re_hasSectors_28 (by decide) ?_
        refine lv_topi (fun v_64 e_65 => ?_)
        have id_66 : 0 ≤ v_9.toInt → v_64.toInt = v_9.toInt % 2048 := fun h9 => by rw [e_65]; exact i_mod (d := 2048) (by decide) h9
        refine lv_if_eq (tgt := 34) hx hb d_Re_hasSectors_29 (by decide) (fun hc_67 => ?_) (fun hc_67 => ?_)
        · skip
          have ic_68 : v_64.toInt = 0 := congrArg Int32.toInt hc_67
          refine lv_aload_n hx hb d_Re_hasSectors_34 rfl (lv_at hl 1 rfl) ?_
          refine hm_get (ci := 1) (v := .int v_9) (C := R_No) (T := F_No) (N := 11) hx hb hts ig_No hown hK hH F_e9 rfl 5 (by decide) (hts _ mw_352) (fun _ h9 => h9) rfl d_Re_hasSectors_35 ?_
          refine lv_if_ne (tgt := 54) hx hb d_Re_hasSectors_38 (by decide) (fun hc_69 => ?_) (fun hc_69 => ?_)
          · skip
            refine lv_aload_n hx hb d_Re_hasSectors_54 rfl (lv_at hl 1 rfl) ?_
            refine hm_get (ci := 1) (v := .int v_9) (C := R_No) (T := F_No) (N := 11) hx hb hts ig_No hown hK hH F_e9 rfl 5 (by decide) (hts _ mw_352) (fun _ h9 => h9) rfl d_Re_hasSectors_55 ?_
            refine hm_callPi (va_runSN (As := [.int v_9]) (rest := []) ⟨hx, hb, hml, hown, hts⟩ (t_secFor2 l D t G ak av h τ n v_9  hn hT ) ⟨cw9N 1 hts mw_99 (nmU hE nM_9) mw_25 rfl rfl (by decide +kernel) ⟨Nat.le_of_ble_eq_true rfl, Nat.le_of_ble_eq_true rfl⟩, hts _ mw_100, trivial⟩ (hP_S kE_ok hE hH) rfl rfl hl.1 rfl (lv_room (Nat.le_of_ble_eq_true rfl)) d_Re_hasSectors_58 ⟨Nat.le_of_ble_eq_true rfl, Nat.le_of_ble_eq_true rfl⟩) (fun r_70 h_71 H_72 hp_74  hH z_73 => ?_)
            have hz : s.heap.size ≤ H_72.size := Nat.le_trans hz z_73
            obtain ⟨xp_75, rfl⟩ := hp_74
            refine lv_istore_n (lv' := [(2, .int r_70), (0, .ref r9), (1, .ref e9)]) hx hb d_Re_hasSectors_61 rfl hl (by decide) rfl (fun ls hl => ?_)
            refine lv_aload_n hx hb d_Re_hasSectors_62 rfl (lv_at hl 2 rfl) ?_
            refine hm_get (ci := 1) (v := .int v_14) (C := R_No) (T := F_No) (N := 11) hx hb hts ig_No hown hK hH F_e9 rfl 9 (by decide) (hts _ mw_353) (fun _ h9 => h9) rfl d_Re_hasSectors_63 ?_
            refine lv_if_lt (tgt := 84) hx hb d_Re_hasSectors_66 (by decide) (fun hc_76 => ?_) (fun hc_76 => ?_)
            · skip
              have ic_77 : v_14.toInt < 0 := iLt hc_76
              refine lv_iconst (v := 0) hx hb d_Re_hasSectors_84 (by decide) ?_
              exact W.zret (v := 0) hx hb hr (by decide) (fun t9 ht hW => ⟨0, h, rfl, ⟨zb0, (fun z => absurd z (by decide)), rfl⟩, by rw [ht]; exact hH, by rw [ht]; exact hz⟩) hLo d_Re_hasSectors_85
            · skip
              have ic_78 : 0 ≤ v_14.toInt := iNl hc_76
              refine lv_aload_n hx hb d_Re_hasSectors_69 rfl (lv_at hl 1 rfl) ?_
              refine hm_get (ci := 5) (v := .ref md) (C := R_Re) (T := F_Re) (N := 5) hx hb hts ig_Re hown hK hH F_r9 rfl 2 (by decide) (hts _ mw_329) (fun _ h9 => h9) rfl d_Re_hasSectors_70 ?_
              refine lv_aload_n hx hb d_Re_hasSectors_73 rfl (lv_at hl 2 rfl) ?_
              refine hm_get (ci := 1) (v := .int v_14) (C := R_No) (T := F_No) (N := 11) hx hb hts ig_No hown hK hH F_e9 rfl 9 (by decide) (hts _ mw_353) (fun _ h9 => h9) rfl d_Re_hasSectors_74 ?_
              refine lv_iload_n hx hb d_Re_hasSectors_77 rfl (lv_at hl 0 rfl) ?_
              obtain ⟨v_79, v_81, F_md, c_80⟩ := TI_med hT T_md
              refine hm_callPi (va_runV (As := [.int v_14, .int r_70]) (b := md) (rest := []) ⟨hx, hb, hml, hown, hts⟩ (t_hasRoom l D t G ak av h τ n md v_14 r_70  hn hT T_md) ⟨cw9B 2 hts mw_270 mw_354 mw_32 rfl rfl (by decide +kernel) ⟨Nat.le_of_ble_eq_true rfl, Nat.le_of_ble_eq_true rfl⟩, hts _ mw_272, hts _ mw_273⟩ (hP_V (q := (R_Me, F_Me, 2)) kE_ok hE hK hH F_md rfl) rfl rfl hl.1 rfl (lv_room (Nat.le_of_ble_eq_true rfl)) d_Re_hasSectors_78 ⟨Nat.le_of_ble_eq_true rfl, Nat.le_of_ble_eq_true rfl⟩) (fun r_82 h_83 H_84 hp_86  hH z_85 => ?_)
              have hz : s.heap.size ≤ H_84.size := Nat.le_trans hz z_85
              obtain ⟨c_87, xp_88, rfl⟩ := hp_86
              rcases c_87 with rfl | rfl
              · skip
                refine lv_if_ne (tgt := 86) hx hb d_Re_hasSectors_81 (by decide) (fun hc_89 => absurd hc_89 (by decide)) (fun hc_89 => ?_)
                refine lv_iconst (v := 0) hx hb d_Re_hasSectors_84 (by decide) ?_
                exact W.zret (v := 0) hx hb hr (by decide) (fun t9 ht hW => ⟨0, h, rfl, ⟨zb0, (fun z => absurd z (by decide)), rfl⟩, by rw [ht]; exact hH, by rw [ht]; exact hz⟩) hLo d_Re_hasSectors_85
              · skip
                refine lv_if_ne (tgt := 86) hx hb d_Re_hasSectors_81 (by decide) (fun hc_90 => ?_) (fun hc_90 => absurd hc_90 (by decide))
                have hrg9 : 0 ≤ v_14.toInt ∧ 0 ≤ v_9.toInt ∧ v_14.toInt * 2048 + v_9.toInt ≤ n * 2048 := by
                  have hs9 := xp_75 (by omega)
                  have hq9 := xp_88 rfl
                  have hn9 : (nI n).toInt = n := nI_toInt (by omega)
                  rw [iSubP (by omega) (by omega)] at hq9
                  omega
                refine lv_iconst (v := 0) hx hb d_Re_hasSectors_86 (by decide) ?_
                refine lv_istore_n (lv' := [(3, .int 0), (2, .int r_70), (0, .ref r9), (1, .ref e9)]) hx hb d_Re_hasSectors_87 rfl hl (by decide) rfl (fun ls hl => ?_)
                refine hm_loop (fun k88 ls H locs hh88 => ∃ (i9 : Int32), k88 = mU i9 ∧ lv_has ls 4 [(0, .ref r9), (1, .ref e9), (2, .int r_70), (3, .int i9)] ∧ hm D vwCl G hh88 H ∧ s.heap.size ≤ H.size ∧ hLc nof locs ∧ (h = hh88) ∧ (0 ≤ i9.toInt)) ?_ (hh := h) ⟨0, rfl, (lv_sub hl [2, 3, 1, 0] rfl), hH, hz, hLo, rfl, (by decide)⟩
                rintro k88 ls H locs hh88 ⟨i9, hk88, hl, hH, hz, hLo, rfl, I_i9⟩ ih88
                refine lv_iload_n hx hb d_Re_hasSectors_88 rfl (lv_at hl 3 rfl) ?_
                refine lv_iload_n hx hb d_Re_hasSectors_89 rfl (lv_at hl 2 rfl) ?_
                refine lv_icmp_ge (tgt := 117) hx hb d_Re_hasSectors_90 (by decide) (fun hc_91 => ?_) (fun hc_91 => ?_)
                · skip
                  have ic_92 : r_70.toInt ≤ i9.toInt := iLe hc_91
                  refine lv_iconst (v := 1) hx hb d_Re_hasSectors_117 (by decide) ?_
                  exact W.zret (v := 1) hx hb hr (by decide) (fun t9 ht hW => ⟨1, h, rfl, ⟨zb1, (fun _ => ⟨_, _, _, _, _, _, _, _, _, _, _, F_e9, fun hd9 => by
                    exact hrg9⟩), rfl⟩, by rw [ht]; exact hH, by rw [ht]; exact hz⟩) hLo d_Re_hasSectors_118
                · skip
                  have ic_93 : i9.toInt < r_70.toInt := iNe hc_91
                  have iu_94 : r_70.toInt < 2147483648 := iUp _
                  refine lv_aload_n hx hb d_Re_hasSectors_93 rfl (lv_at hl 0 rfl) ?_
                  refine hm_get (ci := 5) (v := .ref md) (C := R_Re) (T := F_Re) (N := 5) hx hb hts ig_Re hown hK hH F_r9 rfl 2 (by decide) (hts _ mw_329) (fun _ h9 => h9) rfl d_Re_hasSectors_94 ?_
                  refine lv_aload_n hx hb d_Re_hasSectors_97 rfl (lv_at hl 1 rfl) ?_
                  refine hm_get (ci := 1) (v := .int v_14) (C := R_No) (T := F_No) (N := 11) hx hb hts ig_No hown hK hH F_e9 rfl 9 (by decide) (hts _ mw_353) (fun _ h9 => h9) rfl d_Re_hasSectors_98 ?_
                  refine lv_iload_n hx hb d_Re_hasSectors_101 rfl (lv_at hl 3 rfl) ?_
                  refine lv_iadd hx hb d_Re_hasSectors_102 ?_
                  refine hm_callPi (va_runV (As := [.int (v_14 + i9)]) (b := md) (rest := []) ⟨hx, hb, hml, hown, hts⟩ (t_isWritten l D t G ak av h τ n md (v_14 + i9)  hn hT T_md) ⟨cw9B 1 hts mw_48 mw_341 mw_32 rfl rfl (by decide +kernel) ⟨Nat.le_of_ble_eq_true rfl, Nat.le_of_ble_eq_true rfl⟩, hts _ mw_50, hts _ mw_51⟩ (hP_V (q := (R_Me, F_Me, 2)) kE_ok hE hK hH F_md rfl) rfl rfl hl.1 rfl (lv_room (Nat.le_of_ble_eq_true rfl)) d_Re_hasSectors_103 ⟨Nat.le_of_ble_eq_true rfl, Nat.le_of_ble_eq_true rfl⟩) (fun r_95 h_96 H_97 hp_99  hH z_98 => ?_)
                  have hz : s.heap.size ≤ H_97.size := Nat.le_trans hz z_98
                  obtain ⟨c_100, xp_101, rfl⟩ := hp_99
                  rcases xp_101 with rfl | ⟨rfl, ix9, iy9⟩
                  · skip
                    refine lv_if_ne (tgt := 111) hx hb d_Re_hasSectors_106 (by decide) (fun hc_102 => absurd hc_102 (by decide)) (fun hc_102 => ?_)
                    refine lv_iconst (v := 0) hx hb d_Re_hasSectors_109 (by decide) ?_
                    exact W.zret (v := 0) hx hb hr (by decide) (fun t9 ht hW => ⟨0, h, rfl, ⟨zb0, (fun z => absurd z (by decide)), rfl⟩, by rw [ht]; exact hH, by rw [ht]; exact hz⟩) hLo d_Re_hasSectors_110
                  · skip
                    refine lv_if_ne (tgt := 111) hx hb d_Re_hasSectors_106 (by decide) (fun hc_103 => ?_) (fun hc_103 => absurd hc_103 (by decide))
                    obtain ⟨j_104, e_105⟩ : ∃ z : Int32, z = i9 + 1 := ⟨_, rfl⟩
                    refine lv_iinc (v := j_104) (lv' := [(3, .int j_104), (0, .ref r9), (1, .ref e9), (2, .int r_70)]) hx hb d_Re_hasSectors_111 hl (k := 3) rfl e_105.symm (by decide) rfl (fun ls hl => ?_)
                    refine lv_goto (tgt := 88) hx hb d_Re_hasSectors_114 (by decide) ?_
                    have is_106 : j_104.toInt = i9.toInt + 1 := by rw [e_105]; exact iAddK 1 rfl (by omega) (by omega)
                    exact ih88 (mU j_104) ls _ locs _ (by rw [hk88]; exact mU_lt (by omega)) ⟨j_104, rfl, (lv_sub hl [1, 2, 3, 0] rfl), hH, hz, hLo, rfl, (by omega)⟩
          · skip
            have ic_107 : v_9.toInt = 0 := congrArg Int32.toInt hc_69
            refine lv_aload_n hx hb d_Re_hasSectors_41 rfl (lv_at hl 1 rfl) ?_
            refine hm_get (ci := 1) (v := .int v_14) (C := R_No) (T := F_No) (N := 11) hx hb hts ig_No hown hK hH F_e9 rfl 9 (by decide) (hts _ mw_353) (fun _ h9 => h9) rfl d_Re_hasSectors_42 ?_
            refine lv_if_ne (tgt := 52) hx hb d_Re_hasSectors_45 (by decide) (fun hc_108 => ?_) (fun hc_108 => ?_)
            · skip
              refine lv_iconst (v := 0) hx hb d_Re_hasSectors_52 (by decide) ?_
              exact W.zret (v := 0) hx hb hr (by decide) (fun t9 ht hW => ⟨0, h, rfl, ⟨zb0, (fun z => absurd z (by decide)), rfl⟩, by rw [ht]; exact hH, by rw [ht]; exact hz⟩) hLo d_Re_hasSectors_53
            · skip
              have ic_109 : v_14.toInt = 0 := congrArg Int32.toInt hc_108
              have hnd9 : ¬ v_4 = 1 := fun z => by
                first
                  | exact absurd (show v_9 = 0 by assumption) (show ¬ v_9 = 0 by assumption)
                  | (have hq9 : (1 : Int32).toInt = 1 := rfl
                     have hz9 := congrArg Int32.toInt z
                     omega)
              refine lv_iconst (v := 1) hx hb d_Re_hasSectors_48 (by decide) ?_
              refine lv_goto (tgt := 53) hx hb d_Re_hasSectors_49 (by decide) ?_
              exact W.zret (v := 1) hx hb hr (by decide) (fun t9 ht hW => ⟨1, h, rfl, ⟨zb1, (fun _ => ⟨_, _, _, _, _, _, _, _, _, _, _, F_e9, fun hd9 => by
                exact absurd hd9 hnd9⟩), rfl⟩, by rw [ht]; exact hH, by rw [ht]; exact hz⟩) hLo d_Re_hasSectors_53
        · skip
          refine lv_iconst (v := 0) hx hb d_Re_hasSectors_32 (by decide) ?_
          exact W.zret (v := 0) hx hb hr (by decide) (fun t9 ht hW => ⟨0, h, rfl, ⟨zb0, (fun z => absurd z (by decide)), rfl⟩, by rw [ht]; exact hH, by rw [ht]; exact hz⟩) hLo d_Re_hasSectors_33
