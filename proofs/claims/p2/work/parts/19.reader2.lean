set_option maxRecDepth 100000 in
theorem mw_352 : Cond.fieldLink R_Re 111 "WriteOnceDisc$Node" "size" "I" ∈ lw_g := lw_gin (List.mem_append_right _ (List.mem_of_getElem? (i := 111) rfl)) (by decide +kernel)
set_option maxRecDepth 100000 in
theorem mw_353 : Cond.fieldLink R_Re 108 "WriteOnceDisc$Node" "sector" "I" ∈ lw_g := lw_gin (List.mem_append_right _ (List.mem_of_getElem? (i := 126) rfl)) (by decide +kernel)
set_option maxRecDepth 100000 in
theorem mw_354 : Cond.methodLink R_Re 171 y_Me_hasRoom ∈ lw_g := lw_gin (List.mem_append_right _ (List.mem_of_getElem? (i := 677) rfl)) (by decide +kernel)
theorem d_Re_hasSectors_0 : decode b_Re_hasSectors 0 = .ok (.aload_n 1, 1) := by decide +kernel
theorem d_Re_hasSectors_1 : decode b_Re_hasSectors 1 = .ok (.getfield 111, 3) := by decide +kernel
theorem d_Re_hasSectors_4 : decode b_Re_hasSectors 4 = .ok (.ifCond .lt 28, 3) := by decide +kernel
theorem d_Re_hasSectors_32 : decode b_Re_hasSectors 32 = .ok (.iconst 0, 1) := by decide +kernel
theorem d_Re_hasSectors_33 : decode b_Re_hasSectors 33 = .ok (.ireturn, 1) := by decide +kernel
theorem d_Re_hasSectors_7 : decode b_Re_hasSectors 7 = .ok (.aload_n 1, 1) := by decide +kernel
theorem d_Re_hasSectors_8 : decode b_Re_hasSectors 8 = .ok (.getfield 58, 3) := by decide +kernel
theorem d_Re_hasSectors_11 : decode b_Re_hasSectors 11 = .ok (.ifCond .eq 23, 3) := by decide +kernel
theorem d_Re_hasSectors_34 : decode b_Re_hasSectors 34 = .ok (.aload_n 1, 1) := by decide +kernel
theorem d_Re_hasSectors_35 : decode b_Re_hasSectors 35 = .ok (.getfield 111, 3) := by decide +kernel
theorem d_Re_hasSectors_38 : decode b_Re_hasSectors 38 = .ok (.ifCond .ne 16, 3) := by decide +kernel
theorem d_Re_hasSectors_54 : decode b_Re_hasSectors 54 = .ok (.aload_n 1, 1) := by decide +kernel
theorem d_Re_hasSectors_55 : decode b_Re_hasSectors 55 = .ok (.getfield 111, 3) := by decide +kernel
theorem d_Re_hasSectors_58 : decode b_Re_hasSectors 58 = .ok (.invokestatic 168, 3) := by decide +kernel
theorem d_Re_hasSectors_61 : decode b_Re_hasSectors 61 = .ok (.istore_n 2, 1) := by decide +kernel
theorem d_Re_hasSectors_62 : decode b_Re_hasSectors 62 = .ok (.aload_n 1, 1) := by decide +kernel
theorem d_Re_hasSectors_63 : decode b_Re_hasSectors 63 = .ok (.getfield 108, 3) := by decide +kernel
theorem d_Re_hasSectors_66 : decode b_Re_hasSectors 66 = .ok (.ifCond .lt 18, 3) := by decide +kernel
theorem d_Re_hasSectors_84 : decode b_Re_hasSectors 84 = .ok (.iconst 0, 1) := by decide +kernel
theorem d_Re_hasSectors_85 : decode b_Re_hasSectors 85 = .ok (.ireturn, 1) := by decide +kernel
theorem d_Re_hasSectors_69 : decode b_Re_hasSectors 69 = .ok (.aload_n 0, 1) := by decide +kernel
theorem d_Re_hasSectors_70 : decode b_Re_hasSectors 70 = .ok (.getfield 27, 3) := by decide +kernel
theorem d_Re_hasSectors_73 : decode b_Re_hasSectors 73 = .ok (.aload_n 1, 1) := by decide +kernel
theorem d_Re_hasSectors_74 : decode b_Re_hasSectors 74 = .ok (.getfield 108, 3) := by decide +kernel
theorem d_Re_hasSectors_77 : decode b_Re_hasSectors 77 = .ok (.iload_n 2, 1) := by decide +kernel
theorem d_Re_hasSectors_78 : decode b_Re_hasSectors 78 = .ok (.invokevirtual 171, 3) := by decide +kernel
theorem d_Re_hasSectors_81 : decode b_Re_hasSectors 81 = .ok (.ifCond .ne 5, 3) := by decide +kernel
theorem d_Re_hasSectors_86 : decode b_Re_hasSectors 86 = .ok (.iconst 0, 1) := by decide +kernel
theorem d_Re_hasSectors_87 : decode b_Re_hasSectors 87 = .ok (.istore_n 3, 1) := by decide +kernel
theorem d_Re_hasSectors_88 : decode b_Re_hasSectors 88 = .ok (.iload_n 3, 1) := by decide +kernel
theorem d_Re_hasSectors_89 : decode b_Re_hasSectors 89 = .ok (.iload_n 2, 1) := by decide +kernel
theorem d_Re_hasSectors_90 : decode b_Re_hasSectors 90 = .ok (.if_icmp .ge 27, 3) := by decide +kernel
theorem d_Re_hasSectors_117 : decode b_Re_hasSectors 117 = .ok (.iconst 1, 1) := by decide +kernel
theorem d_Re_hasSectors_118 : decode b_Re_hasSectors 118 = .ok (.ireturn, 1) := by decide +kernel
theorem d_Re_hasSectors_93 : decode b_Re_hasSectors 93 = .ok (.aload_n 0, 1) := by decide +kernel
theorem d_Re_hasSectors_94 : decode b_Re_hasSectors 94 = .ok (.getfield 27, 3) := by decide +kernel
theorem d_Re_hasSectors_97 : decode b_Re_hasSectors 97 = .ok (.aload_n 1, 1) := by decide +kernel
theorem d_Re_hasSectors_98 : decode b_Re_hasSectors 98 = .ok (.getfield 108, 3) := by decide +kernel
theorem d_Re_hasSectors_101 : decode b_Re_hasSectors 101 = .ok (.iload_n 3, 1) := by decide +kernel
theorem d_Re_hasSectors_102 : decode b_Re_hasSectors 102 = .ok (.iadd, 1) := by decide +kernel
theorem d_Re_hasSectors_103 : decode b_Re_hasSectors 103 = .ok (.invokevirtual 69, 3) := by decide +kernel
theorem d_Re_hasSectors_106 : decode b_Re_hasSectors 106 = .ok (.ifCond .ne 5, 3) := by decide +kernel
theorem d_Re_hasSectors_109 : decode b_Re_hasSectors 109 = .ok (.iconst 0, 1) := by decide +kernel
theorem d_Re_hasSectors_110 : decode b_Re_hasSectors 110 = .ok (.ireturn, 1) := by decide +kernel
theorem d_Re_hasSectors_111 : decode b_Re_hasSectors 111 = .ok (.iinc 3 1, 3) := by decide +kernel
theorem d_Re_hasSectors_114 : decode b_Re_hasSectors 114 = .ok (.goto (-26), 3) := by decide +kernel
theorem d_Re_hasSectors_41 : decode b_Re_hasSectors 41 = .ok (.aload_n 1, 1) := by decide +kernel
theorem d_Re_hasSectors_42 : decode b_Re_hasSectors 42 = .ok (.getfield 108, 3) := by decide +kernel
theorem d_Re_hasSectors_45 : decode b_Re_hasSectors 45 = .ok (.ifCond .ne 7, 3) := by decide +kernel
theorem d_Re_hasSectors_52 : decode b_Re_hasSectors 52 = .ok (.iconst 0, 1) := by decide +kernel
theorem d_Re_hasSectors_53 : decode b_Re_hasSectors 53 = .ok (.ireturn, 1) := by decide +kernel
theorem d_Re_hasSectors_48 : decode b_Re_hasSectors 48 = .ok (.iconst 1, 1) := by decide +kernel
theorem d_Re_hasSectors_49 : decode b_Re_hasSectors 49 = .ok (.goto 4, 3) := by decide +kernel
theorem d_Re_hasSectors_14 : decode b_Re_hasSectors 14 = .ok (.aload_n 1, 1) := by decide +kernel
theorem d_Re_hasSectors_15 : decode b_Re_hasSectors 15 = .ok (.getfield 111, 3) := by decide +kernel
theorem d_Re_hasSectors_18 : decode b_Re_hasSectors 18 = .ok (.ifCond .eq 14, 3) := by decide +kernel
theorem d_Re_hasSectors_21 : decode b_Re_hasSectors 21 = .ok (.aload_n 1, 1) := by decide +kernel
theorem d_Re_hasSectors_22 : decode b_Re_hasSectors 22 = .ok (.getfield 111, 3) := by decide +kernel
theorem d_Re_hasSectors_25 : decode b_Re_hasSectors 25 = .ok (.sipush 2048, 3) := by decide +kernel
theorem d_Re_hasSectors_28 : decode b_Re_hasSectors 28 = .ok (.irem, 1) := by decide +kernel
theorem d_Re_hasSectors_29 : decode b_Re_hasSectors 29 = .ok (.ifCond .eq 5, 3) := by decide +kernel
set_option maxHeartbeats 4000000 in
set_option maxRecDepth 100000 in
theorem t_hasSectors (l : Launch) (D : va_G) (t : Nat → ClassId) (G : hG) (ak av : Nat → Nat) (h : hM) (τ : tM) (n f : Nat) (r9 : Nat) (e9 : Nat) (tb td md nd : Nat) (wp : Int32) (hn : n ≤ 200) (hT : TI τ t n h) (T_r9 : τ r9 = (6, 0)) (T_e9 : τ e9 = (10, f)) (F_r9 : h r9 = some (.inr (5, [.ref tb, .ref td, .ref md, .ref nd, .int wp]))) : Met l y_Re_hasSectors (.code y_Re_hasSectors b_Re_hasSectors 4 (some .boolean) :: lw_g) { frames := 1, cells := 0, slots := 0, locals := 22 } (hP (kE D t G ak av) D vwCl G h [.ref r9, .ref e9]) (hQi D vwCl G (fun r h' => zb r ∧ (r = 1 → rngN n h e9) ∧ h = h')) 0 0 nof := by
  refine Met.ofW (cc := b_Re_hasSectors) (maxL := 4) (ret := (some .boolean)) (by decide) rfl ?_
  intro p e s m args below meth c s₁ Bd hml hv
  obtain ⟨ha, hE, hH⟩ := hv
  have hx := Bd.exec
  have hb := Bd.bytes
  have hr := Bd.returns
  have hts : ∀ w ∈ lw_g, w.before args s = true := fun w hw => atoms_spec (ws := (.code y_Re_hasSectors b_Re_hasSectors 4 (some .boolean) :: lw_g)) Bd.pre w (List.mem_cons_of_mem _ hw)
  have hown : s.vm.findClass R_Re = some m.cls := findClass_of_methodNamed Bd.named
  have hlocks := Bd.notSynchronized
  have hK := hE.1
  have hH0 := hH
  have hLo : hLc nof [] := hLc_nil
  have hz : s.heap.size ≤ s.heap.size := Nat.le_refl _
  have hl := lv_entry [.ref r9, .ref e9] (n := 4) (Nat.le_of_ble_eq_true rfl)
  rw [show entryFrame m args 4 = F0 m 0 ((lg_sl [.ref r9, .ref e9] ++ List.replicate (4 - (lg_sl [.ref r9, .ref e9]).length) Slot.unset).toArray) [] from (by rw [ha]; exact lg_entry_eq m [.ref r9, .ref e9] 4)]
  generalize (lg_sl [.ref r9, .ref e9] ++ List.replicate (4 - (lg_sl [.ref r9, .ref e9]).length) Slot.unset).toArray = ls at hl ⊢
  have hl : lv_has ls 4 [(0, .ref r9), (1, .ref e9)] := hl
  obtain ⟨Tr0, Tr1, Tr2, Tr3⟩ := TJ_rdr (v2 := some md) (v3 := some nd) hT T_r9 F_r9
  have T_md := Tr2 md rfl
  have T_nd := Tr3 nd rfl
  obtain ⟨v1, v2, v4, v6, v7, v9, v10, v11, v13, v14, v15, F_e9, c3, c5, c8, c12⟩ := TI_node hT T_e9
  refine lv_aload_n hx hb d_Re_hasSectors_0 rfl (lv_at hl 1 rfl) ?_
  refine hm_get (ci := 1) (v := .int v9) (C := R_No) (T := F_No) (N := 11) hx hb hts ig_No hown hK hH F_e9 rfl 5 (by decide) (hts _ mw_352) (fun _ h9 => h9) rfl d_Re_hasSectors_1 ?_
  refine lv_if_lt (tgt := 32) hx hb d_Re_hasSectors_4 (by decide) (fun hc16 => ?_) (fun hc16 => ?_)
  · skip
    have ic17 : v9.toInt < 0 := iLt hc16
    refine lv_iconst (v := 0) hx hb d_Re_hasSectors_32 (by decide) ?_
    exact W.zret (v := 0) hx hb hr (by decide) (fun t9 ht hW => ⟨0, h, rfl, ⟨zb0, (fun z => absurd z (by decide)), rfl⟩, by rw [ht]; exact hH, by rw [ht]; exact hz⟩) hLo d_Re_hasSectors_33
  · skip
    have ic18 : 0 ≤ v9.toInt := iNl hc16
    refine lv_aload_n hx hb d_Re_hasSectors_7 rfl (lv_at hl 1 rfl) ?_
    refine hm_get (ci := 1) (v := .int v4) (C := R_No) (T := F_No) (N := 11) hx hb hts ig_No hown hK hH F_e9 rfl 2 (by decide) (hts _ mw_345) (fun _ h9 => h9) rfl d_Re_hasSectors_8 ?_
    refine lv_if_eq (tgt := 34) hx hb d_Re_hasSectors_11 (by decide) (fun hc19 => ?_) (fun hc19 => ?_)
    · skip
      have ic20 : v4.toInt = 0 := congrArg Int32.toInt hc19
      refine lv_aload_n hx hb d_Re_hasSectors_34 rfl (lv_at hl 1 rfl) ?_
      refine hm_get (ci := 1) (v := .int v9) (C := R_No) (T := F_No) (N := 11) hx hb hts ig_No hown hK hH F_e9 rfl 5 (by decide) (hts _ mw_352) (fun _ h9 => h9) rfl d_Re_hasSectors_35 ?_
      refine lv_if_ne (tgt := 54) hx hb d_Re_hasSectors_38 (by decide) (fun hc21 => ?_) (fun hc21 => ?_)
      · skip
        refine lv_aload_n hx hb d_Re_hasSectors_54 rfl (lv_at hl 1 rfl) ?_
        refine hm_get (ci := 1) (v := .int v9) (C := R_No) (T := F_No) (N := 11) hx hb hts ig_No hown hK hH F_e9 rfl 5 (by decide) (hts _ mw_352) (fun _ h9 => h9) rfl d_Re_hasSectors_55 ?_
        refine hm_callPi (va_runSN (As := [.int v9]) (rest := []) ⟨hx, hb, hml, hown, hts⟩ (t_secFor l D t G ak av h τ n v9 hn hT ) ⟨cw9N 1 hts mw_99 (nmU hE nM_9) mw_25 rfl rfl (by decide +kernel) ⟨Nat.le_of_ble_eq_true rfl, Nat.le_of_ble_eq_true rfl⟩, hts _ mw_100, trivial⟩ (hP_S kE_ok hE hH) rfl rfl hl.1 rfl (lv_room (Nat.le_of_ble_eq_true rfl)) d_Re_hasSectors_58 ⟨Nat.le_of_ble_eq_true rfl, Nat.le_of_ble_eq_true rfl⟩) (fun r22 h23 H24 hp26  hH z25 => ?_)
        have hz : s.heap.size ≤ H24.size := Nat.le_trans hz z25
        obtain rfl := hp26
        refine lv_istore_n (lv' := [(2, .int r22), (0, .ref r9), (1, .ref e9)]) hx hb d_Re_hasSectors_61 rfl hl (by decide) rfl (fun ls hl => ?_)
        refine lv_aload_n hx hb d_Re_hasSectors_62 rfl (lv_at hl 2 rfl) ?_
        refine hm_get (ci := 1) (v := .int v14) (C := R_No) (T := F_No) (N := 11) hx hb hts ig_No hown hK hH F_e9 rfl 9 (by decide) (hts _ mw_353) (fun _ h9 => h9) rfl d_Re_hasSectors_63 ?_
        refine lv_if_lt (tgt := 84) hx hb d_Re_hasSectors_66 (by decide) (fun hc28 => ?_) (fun hc28 => ?_)
        · skip
          have ic29 : v14.toInt < 0 := iLt hc28
          refine lv_iconst (v := 0) hx hb d_Re_hasSectors_84 (by decide) ?_
          exact W.zret (v := 0) hx hb hr (by decide) (fun t9 ht hW => ⟨0, h, rfl, ⟨zb0, (fun z => absurd z (by decide)), rfl⟩, by rw [ht]; exact hH, by rw [ht]; exact hz⟩) hLo d_Re_hasSectors_85
        · skip
          have ic30 : 0 ≤ v14.toInt := iNl hc28
          refine lv_aload_n hx hb d_Re_hasSectors_69 rfl (lv_at hl 1 rfl) ?_
          refine hm_get (ci := 5) (v := .ref md) (C := R_Re) (T := F_Re) (N := 5) hx hb hts ig_Re hown hK hH F_r9 rfl 2 (by decide) (hts _ mw_329) (fun _ h9 => h9) rfl d_Re_hasSectors_70 ?_
          refine lv_aload_n hx hb d_Re_hasSectors_73 rfl (lv_at hl 2 rfl) ?_
          refine hm_get (ci := 1) (v := .int v14) (C := R_No) (T := F_No) (N := 11) hx hb hts ig_No hown hK hH F_e9 rfl 9 (by decide) (hts _ mw_353) (fun _ h9 => h9) rfl d_Re_hasSectors_74 ?_
          refine lv_iload_n hx hb d_Re_hasSectors_77 rfl (lv_at hl 0 rfl) ?_
          obtain ⟨v31, v33, F_md, c32⟩ := TI_med hT T_md
          refine hm_callPi (va_runV (As := [.int v14, .int r22]) (b := md) (rest := []) ⟨hx, hb, hml, hown, hts⟩ (t_hasRoom l D t G ak av h τ n md v14 r22 hn hT T_md) ⟨cw9B 2 hts mw_270 mw_354 mw_32 rfl rfl (by decide +kernel) ⟨Nat.le_of_ble_eq_true rfl, Nat.le_of_ble_eq_true rfl⟩, hts _ mw_272, hts _ mw_273⟩ (hP_V (q := (R_Me, F_Me, 2)) kE_ok hE hK hH F_md rfl) rfl rfl hl.1 rfl (lv_room (Nat.le_of_ble_eq_true rfl)) d_Re_hasSectors_78 ⟨Nat.le_of_ble_eq_true rfl, Nat.le_of_ble_eq_true rfl⟩) (fun r34 h35 H36 hp38  hH z37 => ?_)
          have hz : s.heap.size ≤ H36.size := Nat.le_trans hz z37
          obtain ⟨c39, xp40, rfl⟩ := hp38
          rcases c39 with rfl | rfl
          · skip
            refine lv_if_ne (tgt := 86) hx hb d_Re_hasSectors_81 (by decide) (fun hc41 => absurd hc41 (by decide)) (fun hc41 => ?_)
            refine lv_iconst (v := 0) hx hb d_Re_hasSectors_84 (by decide) ?_
            exact W.zret (v := 0) hx hb hr (by decide) (fun t9 ht hW => ⟨0, h, rfl, ⟨zb0, (fun z => absurd z (by decide)), rfl⟩, by rw [ht]; exact hH, by rw [ht]; exact hz⟩) hLo d_Re_hasSectors_85
          · skip
            refine lv_if_ne (tgt := 86) hx hb d_Re_hasSectors_81 (by decide) (fun hc42 => ?_) (fun hc42 => absurd hc42 (by decide))
            have hrg9 : 0 ≤ v14.toInt ∧ 0 ≤ v9.toInt ∧ v14.toInt * 2048 + v9.toInt ≤ n * 2048 := by
              have hs9 := xp27 (by omega)
              have hq9 := xp40 rfl
              have hn9 : (nI n).toInt = n := nI_toInt (by omega)
              rw [iSub (by omega) (by omega)] at hq9
              omega
            refine lv_iconst (v := 0) hx hb d_Re_hasSectors_86 (by decide) ?_
            refine lv_istore_n (lv' := [(3, .int 0), (2, .int r22), (0, .ref r9), (1, .ref e9)]) hx hb d_Re_hasSectors_87 rfl hl (by decide) rfl (fun ls hl => ?_)
            refine hm_loop (fun k88 ls H locs hh88 => ∃ (i9 : Int32), k88 = mU i9 ∧ lv_has ls 4 [(0, .ref r9), (1, .ref e9), (2, .int r22), (3, .int i9)] ∧ hm D vwCl G hh88 H ∧ s.heap.size ≤ H.size ∧ hLc nof locs ∧ (h = hh88) ∧ (0 ≤ i9.toInt)) ?_ (hh := h) ⟨0, rfl, (lv_sub hl [2, 3, 1, 0] rfl), hH, hz, hLo, rfl, (by decide)⟩
            rintro k88 ls H locs hh88 ⟨i9, hk88, hl, hH, hz, hLo, rfl, I_i9⟩ ih88
            refine lv_iload_n hx hb d_Re_hasSectors_88 rfl (lv_at hl 3 rfl) ?_
            refine lv_iload_n hx hb d_Re_hasSectors_89 rfl (lv_at hl 2 rfl) ?_
            refine lv_icmp_ge (tgt := 117) hx hb d_Re_hasSectors_90 (by decide) (fun hc43 => ?_) (fun hc43 => ?_)
            · skip
              have ic44 : r22.toInt ≤ i9.toInt := iLe hc43
              refine lv_iconst (v := 1) hx hb d_Re_hasSectors_117 (by decide) ?_
              exact W.zret (v := 1) hx hb hr (by decide) (fun t9 ht hW => ⟨1, h, rfl, ⟨zb1, (fun _ => ⟨_, _, _, _, _, _, _, _, _, _, _, F_e9, fun hd9 => by
                exact hrg9⟩), rfl⟩, by rw [ht]; exact hH, by rw [ht]; exact hz⟩) hLo d_Re_hasSectors_118
            · skip
              have ic45 : i9.toInt < r22.toInt := iNe hc43
              refine lv_aload_n hx hb d_Re_hasSectors_93 rfl (lv_at hl 0 rfl) ?_
              refine hm_get (ci := 5) (v := .ref md) (C := R_Re) (T := F_Re) (N := 5) hx hb hts ig_Re hown hK hH F_r9 rfl 2 (by decide) (hts _ mw_329) (fun _ h9 => h9) rfl d_Re_hasSectors_94 ?_
              refine lv_aload_n hx hb d_Re_hasSectors_97 rfl (lv_at hl 1 rfl) ?_
              refine hm_get (ci := 1) (v := .int v14) (C := R_No) (T := F_No) (N := 11) hx hb hts ig_No hown hK hH F_e9 rfl 9 (by decide) (hts _ mw_353) (fun _ h9 => h9) rfl d_Re_hasSectors_98 ?_
              refine lv_iload_n hx hb d_Re_hasSectors_101 rfl (lv_at hl 3 rfl) ?_
              refine lv_iadd hx hb d_Re_hasSectors_102 ?_
              refine hm_callPi (va_runV (As := [.int (v14 + i9)]) (b := md) (rest := []) ⟨hx, hb, hml, hown, hts⟩ (t_isWritten l D t G ak av h τ n md (v14 + i9) hn hT T_md) ⟨cw9B 1 hts mw_48 mw_341 mw_32 rfl rfl (by decide +kernel) ⟨Nat.le_of_ble_eq_true rfl, Nat.le_of_ble_eq_true rfl⟩, hts _ mw_50, hts _ mw_51⟩ (hP_V (q := (R_Me, F_Me, 2)) kE_ok hE hK hH F_md rfl) rfl rfl hl.1 rfl (lv_room (Nat.le_of_ble_eq_true rfl)) d_Re_hasSectors_103 ⟨Nat.le_of_ble_eq_true rfl, Nat.le_of_ble_eq_true rfl⟩) (fun r46 h47 H48 hp50  hH z49 => ?_)
              have hz : s.heap.size ≤ H48.size := Nat.le_trans hz z49
              obtain ⟨c51, xp52, rfl⟩ := hp50
              rcases xp52 with rfl | ⟨rfl, ix9, iy9⟩
              · skip
                refine lv_if_ne (tgt := 111) hx hb d_Re_hasSectors_106 (by decide) (fun hc53 => absurd hc53 (by decide)) (fun hc53 => ?_)
                refine lv_iconst (v := 0) hx hb d_Re_hasSectors_109 (by decide) ?_
                exact W.zret (v := 0) hx hb hr (by decide) (fun t9 ht hW => ⟨0, h, rfl, ⟨zb0, (fun z => absurd z (by decide)), rfl⟩, by rw [ht]; exact hH, by rw [ht]; exact hz⟩) hLo d_Re_hasSectors_110
              · skip
                refine lv_if_ne (tgt := 111) hx hb d_Re_hasSectors_106 (by decide) (fun hc54 => ?_) (fun hc54 => absurd hc54 (by decide))
                refine lv_iinc (v := i9 + 1) (lv' := [(3, .int (i9 + 1)), (0, .ref r9), (1, .ref e9), (2, .int r22)]) hx hb d_Re_hasSectors_111 hl (k := 3) rfl (by rfl) (by decide) rfl (fun ls hl => ?_)
                refine lv_goto (tgt := 88) hx hb d_Re_hasSectors_114 (by decide) ?_
                have is55 : (i9 + 1).toInt = i9.toInt + 1 := iAddK 1 rfl (by omega) (by omega)
                exact ih88 (mU (i9 + 1)) ls _ locs _ (by rw [hk88]; exact mU_lt (by omega)) ⟨(i9 + 1), rfl, (lv_sub hl [1, 2, 3, 0] rfl), hH, hz, hLo, rfl, (by omega)⟩
      · skip
        have ic56 : v9.toInt = 0 := congrArg Int32.toInt hc21
        refine lv_aload_n hx hb d_Re_hasSectors_41 rfl (lv_at hl 1 rfl) ?_
        refine hm_get (ci := 1) (v := .int v14) (C := R_No) (T := F_No) (N := 11) hx hb hts ig_No hown hK hH F_e9 rfl 9 (by decide) (hts _ mw_353) (fun _ h9 => h9) rfl d_Re_hasSectors_42 ?_
        refine lv_if_ne (tgt := 52) hx hb d_Re_hasSectors_45 (by decide) (fun hc57 => ?_) (fun hc57 => ?_)
        · skip
          refine lv_iconst (v := 0) hx hb d_Re_hasSectors_52 (by decide) ?_
          exact W.zret (v := 0) hx hb hr (by decide) (fun t9 ht hW => ⟨0, h, rfl, ⟨zb0, (fun z => absurd z (by decide)), rfl⟩, by rw [ht]; exact hH, by rw [ht]; exact hz⟩) hLo d_Re_hasSectors_53
        · skip
          have ic58 : v14.toInt = 0 := congrArg Int32.toInt hc57
          have hnd9 : ¬ v4 = 1 := fun z => by
            first
              | exact absurd (show v9 = 0 by assumption) (show ¬ v9 = 0 by assumption)
              | (have hq9 : (1 : Int32).toInt = 1 := rfl
                 have hz9 := congrArg Int32.toInt z
                 omega)
          refine lv_iconst (v := 1) hx hb d_Re_hasSectors_48 (by decide) ?_
          refine lv_goto (tgt := 53) hx hb d_Re_hasSectors_49 (by decide) ?_
          exact W.zret (v := 1) hx hb hr (by decide) (fun t9 ht hW => ⟨1, h, rfl, ⟨zb1, (fun _ => ⟨_, _, _, _, _, _, _, _, _, _, _, F_e9, fun hd9 => by
            exact absurd hd9 hnd9⟩), rfl⟩, by rw [ht]; exact hH, by rw [ht]; exact hz⟩) hLo d_Re_hasSectors_53
    · skip
      refine lv_aload_n hx hb d_Re_hasSectors_14 rfl (lv_at hl 1 rfl) ?_
      refine hm_get (ci := 1) (v := .int v9) (C := R_No) (T := F_No) (N := 11) hx hb hts ig_No hown hK hH F_e9 rfl 5 (by decide) (hts _ mw_352) (fun _ h9 => h9) rfl d_Re_hasSectors_15 ?_
      refine lv_if_eq (tgt := 32) hx hb d_Re_hasSectors_18 (by decide) (fun hc59 => ?_) (fun hc59 => ?_)
      · skip
        have ic60 : v9.toInt = 0 := congrArg Int32.toInt hc59
        refine lv_iconst (v := 0) hx hb d_Re_hasSectors_32 (by decide) ?_
        exact W.zret (v := 0) hx hb hr (by decide) (fun t9 ht hW => ⟨0, h, rfl, ⟨zb0, (fun z => absurd z (by decide)), rfl⟩, by rw [ht]; exact hH, by rw [ht]; exact hz⟩) hLo d_Re_hasSectors_33
      · skip
        refine lv_aload_n hx hb d_Re_hasSectors_21 rfl (lv_at hl 1 rfl) ?_
        refine hm_get (ci := 1) (v := .int v9) (C := R_No) (T := F_No) (N := 11) hx hb hts ig_No hown hK hH F_e9 rfl 5 (by decide) (hts _ mw_352) (fun _ h9 => h9) rfl d_Re_hasSectors_22 ?_
        refine lv_sipush (v := 2048) hx hb d_Re_hasSectors_25 (by decide) ?_
        refine lv_irem hx hb d_Re_hasSectors_28 (by decide) ?_
        refine lv_topi (fun v61 e62 => ?_)
        have id63 : 0 ≤ v9.toInt → v61.toInt = v9.toInt % 2048 := fun h9 => by rw [e62]; exact i_mod (d := 2048) (by decide) h9
        refine lv_if_eq (tgt := 34) hx hb d_Re_hasSectors_29 (by decide) (fun hc64 => ?_) (fun hc64 => ?_)
        · skip
          have ic65 : v61.toInt = 0 := congrArg Int32.toInt hc64
          refine lv_aload_n hx hb d_Re_hasSectors_34 rfl (lv_at hl 1 rfl) ?_
          refine hm_get (ci := 1) (v := .int v9) (C := R_No) (T := F_No) (N := 11) hx hb hts ig_No hown hK hH F_e9 rfl 5 (by decide) (hts _ mw_352) (fun _ h9 => h9) rfl d_Re_hasSectors_35 ?_
          refine lv_if_ne (tgt := 54) hx hb d_Re_hasSectors_38 (by decide) (fun hc66 => ?_) (fun hc66 => ?_)
          · skip
            refine lv_aload_n hx hb d_Re_hasSectors_54 rfl (lv_at hl 1 rfl) ?_
            refine hm_get (ci := 1) (v := .int v9) (C := R_No) (T := F_No) (N := 11) hx hb hts ig_No hown hK hH F_e9 rfl 5 (by decide) (hts _ mw_352) (fun _ h9 => h9) rfl d_Re_hasSectors_55 ?_
            refine hm_callPi (va_runSN (As := [.int v9]) (rest := []) ⟨hx, hb, hml, hown, hts⟩ (t_secFor l D t G ak av h τ n v9 hn hT ) ⟨cw9N 1 hts mw_99 (nmU hE nM_9) mw_25 rfl rfl (by decide +kernel) ⟨Nat.le_of_ble_eq_true rfl, Nat.le_of_ble_eq_true rfl⟩, hts _ mw_100, trivial⟩ (hP_S kE_ok hE hH) rfl rfl hl.1 rfl (lv_room (Nat.le_of_ble_eq_true rfl)) d_Re_hasSectors_58 ⟨Nat.le_of_ble_eq_true rfl, Nat.le_of_ble_eq_true rfl⟩) (fun r67 h68 H69 hp71  hH z70 => ?_)
            have hz : s.heap.size ≤ H69.size := Nat.le_trans hz z70
            obtain rfl := hp71
            refine lv_istore_n (lv' := [(2, .int r67), (0, .ref r9), (1, .ref e9)]) hx hb d_Re_hasSectors_61 rfl hl (by decide) rfl (fun ls hl => ?_)
            refine lv_aload_n hx hb d_Re_hasSectors_62 rfl (lv_at hl 2 rfl) ?_
            refine hm_get (ci := 1) (v := .int v14) (C := R_No) (T := F_No) (N := 11) hx hb hts ig_No hown hK hH F_e9 rfl 9 (by decide) (hts _ mw_353) (fun _ h9 => h9) rfl d_Re_hasSectors_63 ?_
            refine lv_if_lt (tgt := 84) hx hb d_Re_hasSectors_66 (by decide) (fun hc73 => ?_) (fun hc73 => ?_)
            · skip
              have ic74 : v14.toInt < 0 := iLt hc73
              refine lv_iconst (v := 0) hx hb d_Re_hasSectors_84 (by decide) ?_
              exact W.zret (v := 0) hx hb hr (by decide) (fun t9 ht hW => ⟨0, h, rfl, ⟨zb0, (fun z => absurd z (by decide)), rfl⟩, by rw [ht]; exact hH, by rw [ht]; exact hz⟩) hLo d_Re_hasSectors_85
            · skip
              have ic75 : 0 ≤ v14.toInt := iNl hc73
              refine lv_aload_n hx hb d_Re_hasSectors_69 rfl (lv_at hl 1 rfl) ?_
              refine hm_get (ci := 5) (v := .ref md) (C := R_Re) (T := F_Re) (N := 5) hx hb hts ig_Re hown hK hH F_r9 rfl 2 (by decide) (hts _ mw_329) (fun _ h9 => h9) rfl d_Re_hasSectors_70 ?_
              refine lv_aload_n hx hb d_Re_hasSectors_73 rfl (lv_at hl 2 rfl) ?_
              refine hm_get (ci := 1) (v := .int v14) (C := R_No) (T := F_No) (N := 11) hx hb hts ig_No hown hK hH F_e9 rfl 9 (by decide) (hts _ mw_353) (fun _ h9 => h9) rfl d_Re_hasSectors_74 ?_
              refine lv_iload_n hx hb d_Re_hasSectors_77 rfl (lv_at hl 0 rfl) ?_
              obtain ⟨v76, v78, F_md, c77⟩ := TI_med hT T_md
              refine hm_callPi (va_runV (As := [.int v14, .int r67]) (b := md) (rest := []) ⟨hx, hb, hml, hown, hts⟩ (t_hasRoom l D t G ak av h τ n md v14 r67 hn hT T_md) ⟨cw9B 2 hts mw_270 mw_354 mw_32 rfl rfl (by decide +kernel) ⟨Nat.le_of_ble_eq_true rfl, Nat.le_of_ble_eq_true rfl⟩, hts _ mw_272, hts _ mw_273⟩ (hP_V (q := (R_Me, F_Me, 2)) kE_ok hE hK hH F_md rfl) rfl rfl hl.1 rfl (lv_room (Nat.le_of_ble_eq_true rfl)) d_Re_hasSectors_78 ⟨Nat.le_of_ble_eq_true rfl, Nat.le_of_ble_eq_true rfl⟩) (fun r79 h80 H81 hp83  hH z82 => ?_)
              have hz : s.heap.size ≤ H81.size := Nat.le_trans hz z82
              obtain ⟨c84, xp85, rfl⟩ := hp83
              rcases c84 with rfl | rfl
              · skip
                refine lv_if_ne (tgt := 86) hx hb d_Re_hasSectors_81 (by decide) (fun hc86 => absurd hc86 (by decide)) (fun hc86 => ?_)
                refine lv_iconst (v := 0) hx hb d_Re_hasSectors_84 (by decide) ?_
                exact W.zret (v := 0) hx hb hr (by decide) (fun t9 ht hW => ⟨0, h, rfl, ⟨zb0, (fun z => absurd z (by decide)), rfl⟩, by rw [ht]; exact hH, by rw [ht]; exact hz⟩) hLo d_Re_hasSectors_85
              · skip
                refine lv_if_ne (tgt := 86) hx hb d_Re_hasSectors_81 (by decide) (fun hc87 => ?_) (fun hc87 => absurd hc87 (by decide))
                have hrg9 : 0 ≤ v14.toInt ∧ 0 ≤ v9.toInt ∧ v14.toInt * 2048 + v9.toInt ≤ n * 2048 := by
                  have hs9 := xp72 (by omega)
                  have hq9 := xp85 rfl
                  have hn9 : (nI n).toInt = n := nI_toInt (by omega)
                  rw [iSub (by omega) (by omega)] at hq9
                  omega
                refine lv_iconst (v := 0) hx hb d_Re_hasSectors_86 (by decide) ?_
                refine lv_istore_n (lv' := [(3, .int 0), (2, .int r67), (0, .ref r9), (1, .ref e9)]) hx hb d_Re_hasSectors_87 rfl hl (by decide) rfl (fun ls hl => ?_)
                refine hm_loop (fun k88 ls H locs hh88 => ∃ (i9 : Int32), k88 = mU i9 ∧ lv_has ls 4 [(0, .ref r9), (1, .ref e9), (2, .int r67), (3, .int i9)] ∧ hm D vwCl G hh88 H ∧ s.heap.size ≤ H.size ∧ hLc nof locs ∧ (h = hh88) ∧ (0 ≤ i9.toInt)) ?_ (hh := h) ⟨0, rfl, (lv_sub hl [2, 3, 1, 0] rfl), hH, hz, hLo, rfl, (by decide)⟩
                rintro k88 ls H locs hh88 ⟨i9, hk88, hl, hH, hz, hLo, rfl, I_i9⟩ ih88
                refine lv_iload_n hx hb d_Re_hasSectors_88 rfl (lv_at hl 3 rfl) ?_
                refine lv_iload_n hx hb d_Re_hasSectors_89 rfl (lv_at hl 2 rfl) ?_
                refine lv_icmp_ge (tgt := 117) hx hb d_Re_hasSectors_90 (by decide) (fun hc88 => ?_) (fun hc88 => ?_)
                · skip
                  have ic89 : r67.toInt ≤ i9.toInt := iLe hc88
                  refine lv_iconst (v := 1) hx hb d_Re_hasSectors_117 (by decide) ?_
                  exact W.zret (v := 1) hx hb hr (by decide) (fun t9 ht hW => ⟨1, h, rfl, ⟨zb1, (fun _ => ⟨_, _, _, _, _, _, _, _, _, _, _, F_e9, fun hd9 => by
                    exact hrg9⟩), rfl⟩, by rw [ht]; exact hH, by rw [ht]; exact hz⟩) hLo d_Re_hasSectors_118
                · skip
                  have ic90 : i9.toInt < r67.toInt := iNe hc88
                  refine lv_aload_n hx hb d_Re_hasSectors_93 rfl (lv_at hl 0 rfl) ?_
                  refine hm_get (ci := 5) (v := .ref md) (C := R_Re) (T := F_Re) (N := 5) hx hb hts ig_Re hown hK hH F_r9 rfl 2 (by decide) (hts _ mw_329) (fun _ h9 => h9) rfl d_Re_hasSectors_94 ?_
                  refine lv_aload_n hx hb d_Re_hasSectors_97 rfl (lv_at hl 1 rfl) ?_
                  refine hm_get (ci := 1) (v := .int v14) (C := R_No) (T := F_No) (N := 11) hx hb hts ig_No hown hK hH F_e9 rfl 9 (by decide) (hts _ mw_353) (fun _ h9 => h9) rfl d_Re_hasSectors_98 ?_
                  refine lv_iload_n hx hb d_Re_hasSectors_101 rfl (lv_at hl 3 rfl) ?_
                  refine lv_iadd hx hb d_Re_hasSectors_102 ?_
                  refine hm_callPi (va_runV (As := [.int (v14 + i9)]) (b := md) (rest := []) ⟨hx, hb, hml, hown, hts⟩ (t_isWritten l D t G ak av h τ n md (v14 + i9) hn hT T_md) ⟨cw9B 1 hts mw_48 mw_341 mw_32 rfl rfl (by decide +kernel) ⟨Nat.le_of_ble_eq_true rfl, Nat.le_of_ble_eq_true rfl⟩, hts _ mw_50, hts _ mw_51⟩ (hP_V (q := (R_Me, F_Me, 2)) kE_ok hE hK hH F_md rfl) rfl rfl hl.1 rfl (lv_room (Nat.le_of_ble_eq_true rfl)) d_Re_hasSectors_103 ⟨Nat.le_of_ble_eq_true rfl, Nat.le_of_ble_eq_true rfl⟩) (fun r91 h92 H93 hp95  hH z94 => ?_)
                  have hz : s.heap.size ≤ H93.size := Nat.le_trans hz z94
                  obtain ⟨c96, xp97, rfl⟩ := hp95
                  rcases xp97 with rfl | ⟨rfl, ix9, iy9⟩
                  · skip
                    refine lv_if_ne (tgt := 111) hx hb d_Re_hasSectors_106 (by decide) (fun hc98 => absurd hc98 (by decide)) (fun hc98 => ?_)
                    refine lv_iconst (v := 0) hx hb d_Re_hasSectors_109 (by decide) ?_
                    exact W.zret (v := 0) hx hb hr (by decide) (fun t9 ht hW => ⟨0, h, rfl, ⟨zb0, (fun z => absurd z (by decide)), rfl⟩, by rw [ht]; exact hH, by rw [ht]; exact hz⟩) hLo d_Re_hasSectors_110
                  · skip
                    refine lv_if_ne (tgt := 111) hx hb d_Re_hasSectors_106 (by decide) (fun hc99 => ?_) (fun hc99 => absurd hc99 (by decide))
                    refine lv_iinc (v := i9 + 1) (lv' := [(3, .int (i9 + 1)), (0, .ref r9), (1, .ref e9), (2, .int r67)]) hx hb d_Re_hasSectors_111 hl (k := 3) rfl (by rfl) (by decide) rfl (fun ls hl => ?_)
                    refine lv_goto (tgt := 88) hx hb d_Re_hasSectors_114 (by decide) ?_
                    have is100 : (i9 + 1).toInt = i9.toInt + 1 := iAddK 1 rfl (by omega) (by omega)
                    exact ih88 (mU (i9 + 1)) ls _ locs _ (by rw [hk88]; exact mU_lt (by omega)) ⟨(i9 + 1), rfl, (lv_sub hl [1, 2, 3, 0] rfl), hH, hz, hLo, rfl, (by omega)⟩
          · skip
            have ic101 : v9.toInt = 0 := congrArg Int32.toInt hc66
            refine lv_aload_n hx hb d_Re_hasSectors_41 rfl (lv_at hl 1 rfl) ?_
            refine hm_get (ci := 1) (v := .int v14) (C := R_No) (T := F_No) (N := 11) hx hb hts ig_No hown hK hH F_e9 rfl 9 (by decide) (hts _ mw_353) (fun _ h9 => h9) rfl d_Re_hasSectors_42 ?_
            refine lv_if_ne (tgt := 52) hx hb d_Re_hasSectors_45 (by decide) (fun hc102 => ?_) (fun hc102 => ?_)
            · skip
              refine lv_iconst (v := 0) hx hb d_Re_hasSectors_52 (by decide) ?_
              exact W.zret (v := 0) hx hb hr (by decide) (fun t9 ht hW => ⟨0, h, rfl, ⟨zb0, (fun z => absurd z (by decide)), rfl⟩, by rw [ht]; exact hH, by rw [ht]; exact hz⟩) hLo d_Re_hasSectors_53
            · skip
              have ic103 : v14.toInt = 0 := congrArg Int32.toInt hc102
              have hnd9 : ¬ v4 = 1 := fun z => by
                first
                  | exact absurd (show v9 = 0 by assumption) (show ¬ v9 = 0 by assumption)
                  | (have hq9 : (1 : Int32).toInt = 1 := rfl
                     have hz9 := congrArg Int32.toInt z
                     omega)
              refine lv_iconst (v := 1) hx hb d_Re_hasSectors_48 (by decide) ?_
              refine lv_goto (tgt := 53) hx hb d_Re_hasSectors_49 (by decide) ?_
              exact W.zret (v := 1) hx hb hr (by decide) (fun t9 ht hW => ⟨1, h, rfl, ⟨zb1, (fun _ => ⟨_, _, _, _, _, _, _, _, _, _, _, F_e9, fun hd9 => by
                exact absurd hd9 hnd9⟩), rfl⟩, by rw [ht]; exact hH, by rw [ht]; exact hz⟩) hLo d_Re_hasSectors_53
        · skip
          refine lv_iconst (v := 0) hx hb d_Re_hasSectors_32 (by decide) ?_
          exact W.zret (v := 0) hx hb hr (by decide) (fun t9 ht hW => ⟨0, h, rfl, ⟨zb0, (fun z => absurd z (by decide)), rfl⟩, by rw [ht]; exact hH, by rw [ht]; exact hz⟩) hLo d_Re_hasSectors_33
