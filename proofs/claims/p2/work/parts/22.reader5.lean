set_option maxRecDepth 100000 in
theorem mw_388 : Cond.code y_Re_takesNode b_Re_takesNode 5 (some .boolean) ∈ lw_g := lw_gin (List.mem_append_right _ (List.mem_of_getElem? (i := 693) rfl)) (by decide +kernel)
set_option maxRecDepth 100000 in
theorem mw_389 : Cond.methodLink R_Re 121 y_Re_takesNode ∈ lw_g := lw_gin (List.mem_append_right _ (List.mem_of_getElem? (i := 690) rfl)) (by decide +kernel)
set_option maxRecDepth 100000 in
theorem mw_390 : Cond.instanceMethod y_Re_takesNode ∈ lw_g := lw_gin (List.mem_append_right _ (List.mem_of_getElem? (i := 692) rfl)) (by decide +kernel)
set_option maxRecDepth 100000 in
theorem mw_391 : Cond.selects R_Re y_Re_takesNode y_Re_takesNode ∈ lw_g := lw_gin (List.mem_append_left _ (List.mem_of_getElem? (i := 20) rfl)) (by decide +kernel)
set_option maxRecDepth 100000 in
theorem mw_392 : Cond.code y_Re_saysDirectory b_Re_saysDirectory 4 (some .boolean) ∈ lw_g := lw_gin (List.mem_append_right _ (List.mem_of_getElem? (i := 689) rfl)) (by decide +kernel)
set_option maxRecDepth 100000 in
theorem mw_393 : Cond.methodLink R_Re 117 y_Re_saysDirectory ∈ lw_g := lw_gin (List.mem_append_right _ (List.mem_of_getElem? (i := 686) rfl)) (by decide +kernel)
set_option maxRecDepth 100000 in
theorem mw_394 : Cond.instanceMethod y_Re_saysDirectory ∈ lw_g := lw_gin (List.mem_append_right _ (List.mem_of_getElem? (i := 688) rfl)) (by decide +kernel)
set_option maxRecDepth 100000 in
theorem mw_395 : Cond.selects R_Re y_Re_saysDirectory y_Re_saysDirectory ∈ lw_g := lw_gin (List.mem_append_left _ (List.mem_of_getElem? (i := 19) rfl)) (by decide +kernel)
theorem d_Re_hasDirectory_0 : decode b_Re_hasDirectory 0 = .ok (.aload_n 1, 1) := by decide +kernel
theorem d_Re_hasDirectory_1 : decode b_Re_hasDirectory 1 = .ok (.getfield 108, 3) := by decide +kernel
theorem d_Re_hasDirectory_4 : decode b_Re_hasDirectory 4 = .ok (.sipush 2048, 3) := by decide +kernel
theorem d_Re_hasDirectory_7 : decode b_Re_hasDirectory 7 = .ok (.imul, 1) := by decide +kernel
theorem d_Re_hasDirectory_8 : decode b_Re_hasDirectory 8 = .ok (.istore_n 2, 1) := by decide +kernel
theorem d_Re_hasDirectory_9 : decode b_Re_hasDirectory 9 = .ok (.iload_n 2, 1) := by decide +kernel
theorem d_Re_hasDirectory_10 : decode b_Re_hasDirectory 10 = .ok (.aload_n 1, 1) := by decide +kernel
theorem d_Re_hasDirectory_11 : decode b_Re_hasDirectory 11 = .ok (.getfield 111, 3) := by decide +kernel
theorem d_Re_hasDirectory_14 : decode b_Re_hasDirectory 14 = .ok (.iadd, 1) := by decide +kernel
theorem d_Re_hasDirectory_15 : decode b_Re_hasDirectory 15 = .ok (.istore_n 3, 1) := by decide +kernel
theorem d_Re_hasDirectory_31 : decode b_Re_hasDirectory 31 = .ok (.astore 4, 2) := by decide +kernel
theorem d_Re_hasDirectory_33 : decode b_Re_hasDirectory 33 = .ok (.iconst 0, 1) := by decide +kernel
theorem d_Re_hasDirectory_34 : decode b_Re_hasDirectory 34 = .ok (.istore 5, 2) := by decide +kernel
theorem d_Re_hasDirectory_36 : decode b_Re_hasDirectory 36 = .ok (.iload_n 2, 1) := by decide +kernel
theorem d_Re_hasDirectory_37 : decode b_Re_hasDirectory 37 = .ok (.istore 6, 2) := by decide +kernel
theorem d_Re_hasDirectory_39 : decode b_Re_hasDirectory 39 = .ok (.iload 6, 2) := by decide +kernel
theorem d_Re_hasDirectory_41 : decode b_Re_hasDirectory 41 = .ok (.iload_n 3, 1) := by decide +kernel
theorem d_Re_hasDirectory_42 : decode b_Re_hasDirectory 42 = .ok (.if_icmp .ge 109, 3) := by decide +kernel
theorem d_Re_hasDirectory_151 : decode b_Re_hasDirectory 151 = .ok (.iload 5, 2) := by decide +kernel
theorem d_Re_hasDirectory_153 : decode b_Re_hasDirectory 153 = .ok (.iconst 2, 1) := by decide +kernel
theorem d_Re_hasDirectory_154 : decode b_Re_hasDirectory 154 = .ok (.if_icmp .ge 11, 3) := by decide +kernel
theorem d_Re_hasDirectory_165 : decode b_Re_hasDirectory 165 = .ok (.iconst 1, 1) := by decide +kernel
theorem d_Re_hasDirectory_166 : decode b_Re_hasDirectory 166 = .ok (.goto 4, 3) := by decide +kernel
theorem d_Re_hasDirectory_170 : decode b_Re_hasDirectory 170 = .ok (.ireturn, 1) := by decide +kernel
theorem d_Re_hasDirectory_157 : decode b_Re_hasDirectory 157 = .ok (.aload_n 0, 1) := by decide +kernel
theorem d_Re_hasDirectory_158 : decode b_Re_hasDirectory 158 = .ok (.iload_n 2, 1) := by decide +kernel
theorem d_Re_hasDirectory_159 : decode b_Re_hasDirectory 159 = .ok (.invokevirtual 74, 3) := by decide +kernel
theorem d_Re_hasDirectory_162 : decode b_Re_hasDirectory 162 = .ok (.ifCond .eq 7, 3) := by decide +kernel
theorem d_Re_hasDirectory_169 : decode b_Re_hasDirectory 169 = .ok (.iconst 0, 1) := by decide +kernel
theorem d_Re_hasDirectory_45 : decode b_Re_hasDirectory 45 = .ok (.aload_n 0, 1) := by decide +kernel
theorem d_Re_hasDirectory_46 : decode b_Re_hasDirectory 46 = .ok (.getfield 27, 3) := by decide +kernel
theorem d_Re_hasDirectory_49 : decode b_Re_hasDirectory 49 = .ok (.iload 6, 2) := by decide +kernel
theorem d_Re_hasDirectory_51 : decode b_Re_hasDirectory 51 = .ok (.invokevirtual 81, 3) := by decide +kernel
theorem d_Re_hasDirectory_54 : decode b_Re_hasDirectory 54 = .ok (.istore 7, 2) := by decide +kernel
theorem d_Re_hasDirectory_56 : decode b_Re_hasDirectory 56 = .ok (.iload 7, 2) := by decide +kernel
theorem d_Re_hasDirectory_58 : decode b_Re_hasDirectory 58 = .ok (.ifCond .gt 21, 3) := by decide +kernel
theorem d_Re_hasDirectory_126 : decode b_Re_hasDirectory 126 = .ok (.iload 8, 2) := by decide +kernel
theorem d_Re_hasDirectory_128 : decode b_Re_hasDirectory 128 = .ok (.ifCond .ne 10, 3) := by decide +kernel
theorem d_Re_hasDirectory_138 : decode b_Re_hasDirectory 138 = .ok (.iinc 5 1, 3) := by decide +kernel
theorem d_Re_hasDirectory_141 : decode b_Re_hasDirectory 141 = .ok (.iload 6, 2) := by decide +kernel
theorem d_Re_hasDirectory_143 : decode b_Re_hasDirectory 143 = .ok (.iload 7, 2) := by decide +kernel
theorem d_Re_hasDirectory_145 : decode b_Re_hasDirectory 145 = .ok (.iadd, 1) := by decide +kernel
theorem d_Re_hasDirectory_146 : decode b_Re_hasDirectory 146 = .ok (.istore 6, 2) := by decide +kernel
theorem d_Re_hasDirectory_148 : decode b_Re_hasDirectory 148 = .ok (.goto (-109), 3) := by decide +kernel
theorem d_Re_hasDirectory_131 : decode b_Re_hasDirectory 131 = .ok (.aload_n 0, 1) := by decide +kernel
theorem d_Re_hasDirectory_132 : decode b_Re_hasDirectory 132 = .ok (.iload 6, 2) := by decide +kernel
theorem d_Re_hasDirectory_134 : decode b_Re_hasDirectory 134 = .ok (.invokevirtual 74, 3) := by decide +kernel
theorem d_Re_hasDirectory_137 : decode b_Re_hasDirectory 137 = .ok (.ireturn, 1) := by decide +kernel
theorem d_Re_hasDirectory_79 : decode b_Re_hasDirectory 79 = .ok (.iload 5, 2) := by decide +kernel
theorem d_Re_hasDirectory_81 : decode b_Re_hasDirectory 81 = .ok (.ifCond .ne 16, 3) := by decide +kernel
theorem d_Re_hasDirectory_97 : decode b_Re_hasDirectory 97 = .ok (.iload 5, 2) := by decide +kernel
theorem d_Re_hasDirectory_99 : decode b_Re_hasDirectory 99 = .ok (.iconst 1, 1) := by decide +kernel
theorem d_Re_hasDirectory_100 : decode b_Re_hasDirectory 100 = .ok (.if_icmp .ne 17, 3) := by decide +kernel
theorem d_Re_hasDirectory_117 : decode b_Re_hasDirectory 117 = .ok (.aload_n 0, 1) := by decide +kernel
theorem d_Re_hasDirectory_118 : decode b_Re_hasDirectory 118 = .ok (.iload 6, 2) := by decide +kernel
theorem d_Re_hasDirectory_120 : decode b_Re_hasDirectory 120 = .ok (.aload_n 1, 1) := by decide +kernel
theorem d_Re_hasDirectory_121 : decode b_Re_hasDirectory 121 = .ok (.invokevirtual 121, 3) := by decide +kernel
theorem d_Re_hasDirectory_124 : decode b_Re_hasDirectory 124 = .ok (.istore 8, 2) := by decide +kernel
theorem d_Re_hasDirectory_103 : decode b_Re_hasDirectory 103 = .ok (.aload_n 0, 1) := by decide +kernel
theorem d_Re_hasDirectory_104 : decode b_Re_hasDirectory 104 = .ok (.iload 6, 2) := by decide +kernel
theorem d_Re_hasDirectory_106 : decode b_Re_hasDirectory 106 = .ok (.iconst 1, 1) := by decide +kernel
theorem d_Re_hasDirectory_107 : decode b_Re_hasDirectory 107 = .ok (.aload 4, 2) := by decide +kernel
theorem d_Re_hasDirectory_109 : decode b_Re_hasDirectory 109 = .ok (.invokevirtual 117, 3) := by decide +kernel
theorem d_Re_hasDirectory_112 : decode b_Re_hasDirectory 112 = .ok (.istore 8, 2) := by decide +kernel
theorem d_Re_hasDirectory_114 : decode b_Re_hasDirectory 114 = .ok (.goto 12, 3) := by decide +kernel
theorem d_Re_hasDirectory_84 : decode b_Re_hasDirectory 84 = .ok (.aload_n 0, 1) := by decide +kernel
theorem d_Re_hasDirectory_85 : decode b_Re_hasDirectory 85 = .ok (.iload 6, 2) := by decide +kernel
theorem d_Re_hasDirectory_87 : decode b_Re_hasDirectory 87 = .ok (.iconst 0, 1) := by decide +kernel
theorem d_Re_hasDirectory_88 : decode b_Re_hasDirectory 88 = .ok (.aload_n 1, 1) := by decide +kernel
theorem d_Re_hasDirectory_89 : decode b_Re_hasDirectory 89 = .ok (.invokevirtual 117, 3) := by decide +kernel
theorem d_Re_hasDirectory_92 : decode b_Re_hasDirectory 92 = .ok (.istore 8, 2) := by decide +kernel
theorem d_Re_hasDirectory_94 : decode b_Re_hasDirectory 94 = .ok (.goto 32, 3) := by decide +kernel
theorem d_Re_hasDirectory_61 : decode b_Re_hasDirectory 61 = .ok (.iload 6, 2) := by decide +kernel
theorem d_Re_hasDirectory_63 : decode b_Re_hasDirectory 63 = .ok (.sipush 2048, 3) := by decide +kernel
theorem d_Re_hasDirectory_66 : decode b_Re_hasDirectory 66 = .ok (.iload 6, 2) := by decide +kernel
theorem d_Re_hasDirectory_68 : decode b_Re_hasDirectory 68 = .ok (.sipush 2048, 3) := by decide +kernel
theorem d_Re_hasDirectory_71 : decode b_Re_hasDirectory 71 = .ok (.irem, 1) := by decide +kernel
theorem d_Re_hasDirectory_72 : decode b_Re_hasDirectory 72 = .ok (.isub, 1) := by decide +kernel
theorem d_Re_hasDirectory_73 : decode b_Re_hasDirectory 73 = .ok (.iadd, 1) := by decide +kernel
theorem d_Re_hasDirectory_74 : decode b_Re_hasDirectory 74 = .ok (.istore 6, 2) := by decide +kernel
theorem d_Re_hasDirectory_76 : decode b_Re_hasDirectory 76 = .ok (.goto 72, 3) := by decide +kernel
theorem d_Re_hasDirectory_16 : decode b_Re_hasDirectory 16 = .ok (.aload_n 1, 1) := by decide +kernel
theorem d_Re_hasDirectory_17 : decode b_Re_hasDirectory 17 = .ok (.getfield 114, 3) := by decide +kernel
theorem d_Re_hasDirectory_20 : decode b_Re_hasDirectory 20 = .ok (.ifnonnull 7, 3) := by decide +kernel
theorem d_Re_hasDirectory_23 : decode b_Re_hasDirectory 23 = .ok (.aload_n 1, 1) := by decide +kernel
theorem d_Re_hasDirectory_24 : decode b_Re_hasDirectory 24 = .ok (.goto 7, 3) := by decide +kernel
theorem d_Re_hasDirectory_27 : decode b_Re_hasDirectory 27 = .ok (.aload_n 1, 1) := by decide +kernel
theorem d_Re_hasDirectory_28 : decode b_Re_hasDirectory 28 = .ok (.getfield 114, 3) := by decide +kernel
set_option maxHeartbeats 4000000 in
set_option maxRecDepth 100000 in
theorem t_hasDir (l : Launch) (D : va_G) (t : Nat → ClassId) (G : hG) (ak av : Nat → Nat) (h : hM) (τ : tM) (n : Nat) (r9 : Nat) (e9 : Nat) (tb td md nd : Nat) (wp : Int32) (s8 o8 c8 : Nat) (sl8 : Nat → Option Nat) (hn : n ≤ 200) (hT : TI τ t n h) (T_r9 : τ r9 = (6, 0)) (T_e9 : τ e9 = (10, 1)) (F_r9 : h r9 = some (.inr (5, [.ref tb, .ref td, .ref md, .ref nd, .int wp]))) (hRD : RD t n h nd s8 o8 sl8 c8) (hlv : live sl8 c8 e9) (hdd : ∃ x p w le sz sd iw ex sec np, h e9 = some (.inr (1, [x, p, .int 1, w, le, sz, sd, iw, ex, sec, np]))) : Met l y_Re_hasDirectory (.code y_Re_hasDirectory b_Re_hasDirectory 9 (some .boolean) :: lw_g) { frames := 7, cells := 0, slots := 0, locals := 160 } (hP (kE D t G ak av) D vwCl G h [.ref r9, .ref e9]) (hQi D vwCl G (fun r h' => zb r ∧ TI τ t n h' ∧ kf τ [(10, 1), (7, 1), (10, 2)] [r9] h h' ∧ ((∃ wp', h' r9 = some (.inr (5, [.ref tb, .ref td, .ref md, .ref nd, .int wp']))) ∧ ∃ c', c8 ≤ c' ∧ RN t h' nd s8 o8 sl8 c' ∧ (r = 1 → RD t n h' nd s8 o8 sl8 c')))) 0 0 G.P := by
  refine Met.ofW (cc := b_Re_hasDirectory) (maxL := 9) (ret := (some .boolean)) (by decide) rfl ?_
  intro p e s m args below meth c s₁ Bd hml hv
  obtain ⟨ha, hE, hH⟩ := hv
  have hx := Bd.exec
  have hb := Bd.bytes
  have hr := Bd.returns
  have hts : ∀ w ∈ lw_g, w.before args s = true := fun w hw => atoms_spec (ws := (.code y_Re_hasDirectory b_Re_hasDirectory 9 (some .boolean) :: lw_g)) Bd.pre w (List.mem_cons_of_mem _ hw)
  have hown : s.vm.findClass R_Re = some m.cls := findClass_of_methodNamed Bd.named
  have hlocks := Bd.notSynchronized
  have hK := hE.1
  have hH0 := hH
  have hLo : hLc G.P [] := hLc_nil
  have hz : s.heap.size ≤ s.heap.size := Nat.le_refl _
  have hl := lv_entry [.ref r9, .ref e9] (n := 9) (Nat.le_of_ble_eq_true rfl)
  rw [show entryFrame m args 9 = F0 m 0 ((lg_sl [.ref r9, .ref e9] ++ List.replicate (9 - (lg_sl [.ref r9, .ref e9]).length) Slot.unset).toArray) [] from (by rw [ha]; exact lg_entry_eq m [.ref r9, .ref e9] 9)]
  generalize (lg_sl [.ref r9, .ref e9] ++ List.replicate (9 - (lg_sl [.ref r9, .ref e9]).length) Slot.unset).toArray = ls at hl ⊢
  have hl : lv_has ls 9 [(0, .ref r9), (1, .ref e9)] := hl
  have hkf : kf τ [(10, 1), (7, 1), (10, 2)] [r9] h h := kf_rf
  obtain ⟨Tr0, Tr1, Tr2, Tr3⟩ := TJ_rdr (v2 := some md) (v3 := some nd) hT T_r9 F_r9
  have T_md := Tr2 md rfl
  have T_nd := Tr3 nd rfl
  obtain ⟨⟨F_nd, F_s8⟩, hc1, hc30, hrd, hrg⟩ := id hRD
  obtain ⟨Tn0, Tn1, -⟩ := TJ_nds hT T_nd F_nd
  obtain ⟨Tn2, Tn3⟩ := TJ_slo hT Tn0 F_s8
  have hcI : (nI c8).toInt = c8 := nI_toInt (by omega)
  obtain ⟨v_1, v_2, v_4, v_6, v_7, v_9, v_10, v_11, v_13, v_14, v_15, F_e9, c_3, c_5, c_8, c_12⟩ := TI_node hT T_e9
  obtain ⟨iv9, hiv9, hsv9⟩ := hlv
  have hlv : live sl8 c8 e9 := ⟨iv9, hiv9, hsv9⟩
  have hdd9 : v_4 = 1 := by
    obtain ⟨x9, p9, w9, le9, sz9, sd9, iw9, ex9, sc9, np9, hq9⟩ := hdd
    rw [F_e9] at hq9
    cases hq9
    rfl
  obtain ⟨ir1, ir2, ir3⟩ := rng_get (hrg iv9 e9 hiv9 hsv9) F_e9 hdd9
  refine lv_aload_n hx hb d_Re_hasDirectory_0 rfl (lv_at hl 1 rfl) ?_
  refine hm_get (ci := 1) (v := .int v_14) (C := R_No) (T := F_No) (N := 11) hx hb hts ig_No hown hK hH F_e9 rfl 9 (by decide) (hts _ mw_353) (fun _ h9 => h9) rfl d_Re_hasDirectory_1 ?_
  refine lv_sipush (v := 2048) hx hb d_Re_hasDirectory_4 (by decide) ?_
  refine lv_imul hx hb d_Re_hasDirectory_7 ?_
  refine lv_topi (fun v_16 e_17 => ?_)
  refine lv_istore_n (lv' := [(2, .int v_16), (0, .ref r9), (1, .ref e9)]) hx hb d_Re_hasDirectory_8 rfl hl (by decide) rfl (fun ls hl => ?_)
  have ifs : v_16.toInt = v_14.toInt * 2048 := by
    rw [e_17]
    exact i_mul (by rw [show (2048 : Int32).toInt = 2048 from rfl]; omega) (by rw [show (2048 : Int32).toInt = 2048 from rfl]; omega)
  refine lv_iload_n hx hb d_Re_hasDirectory_9 rfl (lv_at hl 0 rfl) ?_
  refine lv_aload_n hx hb d_Re_hasDirectory_10 rfl (lv_at hl 2 rfl) ?_
  refine hm_get (ci := 1) (v := .int v_9) (C := R_No) (T := F_No) (N := 11) hx hb hts ig_No hown hK hH F_e9 rfl 5 (by decide) (hts _ mw_352) (fun _ h9 => h9) rfl d_Re_hasDirectory_11 ?_
  refine lv_iadd hx hb d_Re_hasDirectory_14 ?_
  refine lv_topi (fun v_18 e_19 => ?_)
  refine lv_istore_n (lv' := [(3, .int v_18), (2, .int v_16), (0, .ref r9), (1, .ref e9)]) hx hb d_Re_hasDirectory_15 rfl hl (by decide) rfl (fun ls hl => ?_)
  have ien : v_18.toInt = v_16.toInt + v_9.toInt := by
    rw [e_19]
    exact iAdd (by omega) (by omega)
  refine hm_cut (α := Nat) (fun u9 ls H locs HH => (lv_has ls 9 [(0, .ref r9), (1, .ref e9), (2, .int v_16), (3, .int v_18)]) ∧ (hm D vwCl G HH H) ∧ (s.heap.size ≤ H.size) ∧ (hLc G.P locs) ∧ (h = HH) ∧ (τ u9 = (10, 1))) 31 (fun u9 => [.ref u9]) ?_ (fun J31 => ?_)
  · skip
    rintro u9 ls H locs HH ⟨hl, hH, hz, hLo, rfl, P_u9⟩
    refine lv_astore (lv' := [(4, .ref u9), (0, .ref r9), (1, .ref e9), (2, .int v_16), (3, .int v_18)]) hx hb d_Re_hasDirectory_31 hl (by decide) rfl (fun ls hl => ?_)
    refine lv_iconst (v := 0) hx hb d_Re_hasDirectory_33 (by decide) ?_
    refine lv_istore (lv' := [(5, .int 0), (4, .ref u9), (0, .ref r9), (1, .ref e9), (2, .int v_16), (3, .int v_18)]) hx hb d_Re_hasDirectory_34 hl (by decide) rfl (fun ls hl => ?_)
    refine lv_iload_n hx hb d_Re_hasDirectory_36 rfl (lv_at hl 4 rfl) ?_
    refine lv_istore (lv' := [(6, .int v_16), (5, .int 0), (4, .ref u9), (0, .ref r9), (1, .ref e9), (2, .int v_16), (3, .int v_18)]) hx hb d_Re_hasDirectory_37 hl (by decide) rfl (fun ls hl => ?_)
    refine hm_loop (fun k39 ls H locs hh39 => ∃ (rc9 : Int32) (at9 : Int32) (c9 : Nat) (wp9 : Int32), k39 = (v_18.toInt + 4096 - at9.toInt).toNat ∧ lv_has ls 9 [(0, .ref r9), (1, .ref e9), (2, .int v_16), (3, .int v_18), (4, .ref u9), (5, .int rc9), (6, .int at9)] ∧ hm D vwCl G hh39 H ∧ s.heap.size ≤ H.size ∧ hLc G.P locs ∧ (TI τ t n hh39) ∧ (kf τ [(10, 1), (7, 1), (10, 2)] [r9] h hh39) ∧ (hh39 r9 = some (.inr (5, [.ref tb, .ref td, .ref md, .ref nd, .int wp9]))) ∧ (RD t n hh39 nd s8 o8 sl8 c9) ∧ (c8 ≤ c9) ∧ (0 ≤ at9.toInt ∧ at9.toInt ≤ v_18.toInt + 2048)) ?_ (hh := h) ⟨0, v_16, c8, wp, rfl, (lv_sub hl [3, 4, 5, 6, 2, 1, 0] rfl), hH, hz, hLo, hT, hkf, F_r9, hRD, Nat.le_refl _, ⟨by omega, by omega⟩⟩
    rintro k39 ls H locs hh39 ⟨rc9, at9, c9, wp9, hk39, hl, hH, hz, hLo, hT, hkf, F_r9, hR9, hcc, I_at⟩ ih39
    refine lv_iload hx hb d_Re_hasDirectory_39 (lv_at hl 6 rfl) ?_
    refine lv_iload_n hx hb d_Re_hasDirectory_41 rfl (lv_at hl 3 rfl) ?_
    refine lv_icmp_ge (tgt := 151) hx hb d_Re_hasDirectory_42 (by decide) (fun hc_20 => ?_) (fun hc_20 => ?_)
    · skip
      have ic_21 : v_18.toInt ≤ at9.toInt := iLe hc_20
      refine lv_iload hx hb d_Re_hasDirectory_151 (lv_at hl 5 rfl) ?_
      refine lv_iconst (v := 2) hx hb d_Re_hasDirectory_153 (by decide) ?_
      refine lv_icmp_ge (tgt := 165) hx hb d_Re_hasDirectory_154 (by decide) (fun hc_22 => ?_) (fun hc_22 => ?_)
      · skip
        have ic_23 : 2 ≤ rc9.toInt := iLe hc_22
        refine lv_iconst (v := 1) hx hb d_Re_hasDirectory_165 (by decide) ?_
        refine lv_goto (tgt := 170) hx hb d_Re_hasDirectory_166 (by decide) ?_
        exact W.zret (v := 1) hx hb hr (by decide) (fun t9 ht hW => ⟨1, hh39, rfl, ⟨zb1, hT, hkf, ⟨⟨_, F_r9⟩, ⟨c9, hcc, RD_RN hR9, fun _ => hR9⟩⟩⟩, by rw [ht]; exact hH, by rw [ht]; exact hz⟩) hLo d_Re_hasDirectory_170
      · skip
        have ic_24 : rc9.toInt < 2 := iNe hc_22
        refine lv_aload_n hx hb d_Re_hasDirectory_157 rfl (lv_at hl 0 rfl) ?_
        refine lv_iload_n hx hb d_Re_hasDirectory_158 rfl (lv_at hl 2 rfl) ?_
        refine hm_calli (va_runV (As := [.int v_16]) (b := r9) (rest := []) ⟨hx, hb, hml, hown, hts⟩ (t_wrongAt l D t G ak av hh39 τ n r9 v_16 tb td md nd wp9  hn hT T_r9  F_r9) ⟨cw9B 1 hts mw_331 mw_333 mw_332 rfl rfl (by decide +kernel) ⟨Nat.le_of_ble_eq_true rfl, Nat.le_of_ble_eq_true rfl⟩, hts _ mw_334, hts _ mw_335⟩ (hP_V (q := (R_Re, F_Re, 5)) kE_ok hE hK hH F_r9 rfl) rfl rfl hl.1 rfl (lv_room (Nat.le_of_ble_eq_true rfl)) d_Re_hasDirectory_159 ⟨Nat.le_of_ble_eq_true rfl, Nat.le_of_ble_eq_true rfl⟩) hLo (fun r_25 h_26 H_27 locs hp_29 hH z_28 hLo => ?_)
        have hz : s.heap.size ≤ H_27.size := Nat.le_trans hz z_28
        have hT0 := hT
        obtain ⟨c_30, hT, kf_32, xp_31⟩ := hp_29
        have hkf : kf τ [(10, 1), (7, 1), (10, 2)] [r9] h h_26 := kf_tr hkf kf_32 (List.forall_mem_nil _) (List.forall_mem_cons.mpr ⟨Or.inl (by simp), List.forall_mem_nil _⟩)
        obtain ⟨⟨wp_33, F_r9⟩, rfl⟩ := xp_31
        have hq7 : RN t h_26 nd s8 o8 sl8 c9 := RN_kf hT0 T_nd (RD_RN hR9) kf_32 (by simp) (by simp) (List.forall_mem_cons.mpr ⟨⟨(fun z => by have := z.symm.trans T_r9; simp at this), (fun z => by have := z.symm.trans T_r9; simp at this)⟩, List.forall_mem_nil _⟩) (knp_kf knp_rf kf_32 (by simp) (List.forall_mem_cons.mpr ⟨(fun z => by have := z.symm.trans T_r9; simp at this), List.forall_mem_nil _⟩))
        refine lv_if_eq (tgt := 169) hx hb d_Re_hasDirectory_162 (by decide) (fun hc_34 => ?_) (fun hc_34 => absurd hc_34 (by decide))
        refine lv_iconst (v := 0) hx hb d_Re_hasDirectory_169 (by decide) ?_
        exact W.zret (v := 0) hx hb hr (by decide) (fun t9 ht hW => ⟨0, h_26, rfl, ⟨zb0, hT, hkf, ⟨⟨_, F_r9⟩, ⟨c9, hcc, hq7, fun z => absurd z (by decide)⟩⟩⟩, by rw [ht]; exact hH, by rw [ht]; exact hz⟩) hLo d_Re_hasDirectory_170
    · skip
      have ic_35 : at9.toInt < v_18.toInt := iNe hc_20
      have iu_36 : v_18.toInt < 2147483648 := iUp _
      refine lv_aload_n hx hb d_Re_hasDirectory_45 rfl (lv_at hl 0 rfl) ?_
      refine hm_get (ci := 5) (v := .ref md) (C := R_Re) (T := F_Re) (N := 5) hx hb hts ig_Re hown hK hH F_r9 rfl 2 (by decide) (hts _ mw_329) (fun _ h9 => h9) rfl d_Re_hasDirectory_46 ?_
      refine lv_iload hx hb d_Re_hasDirectory_49 (lv_at hl 6 rfl) ?_
      obtain ⟨v_37, v_39, F_md, c_38⟩ := TI_med hT T_md
      refine hm_callPi (va_runV (As := [.int at9]) (b := md) (rest := []) ⟨hx, hb, hml, hown, hts⟩ (t_fetch l D t G ak av hh39 τ n md at9  hn hT T_md) ⟨cw9B 1 hts mw_31 mw_330 mw_32 rfl rfl (by decide +kernel) ⟨Nat.le_of_ble_eq_true rfl, Nat.le_of_ble_eq_true rfl⟩, hts _ mw_34, hts _ mw_35⟩ (hP_V (q := (R_Me, F_Me, 2)) kE_ok hE hK hH F_md rfl) rfl rfl hl.1 rfl (lv_room (Nat.le_of_ble_eq_true rfl)) d_Re_hasDirectory_51 ⟨Nat.le_of_ble_eq_true rfl, Nat.le_of_ble_eq_true rfl⟩) (fun r_40 h_41 H_42 hp_44  hH z_43 => ?_)
      have hz : s.heap.size ≤ H_42.size := Nat.le_trans hz z_43
      obtain ⟨xp_45, rfl⟩ := hp_44
      obtain ⟨if1, if2⟩ := xp_45
      refine lv_istore (lv' := [(7, .int r_40), (0, .ref r9), (1, .ref e9), (2, .int v_16), (3, .int v_18), (4, .ref u9), (5, .int rc9), (6, .int at9)]) hx hb d_Re_hasDirectory_54 hl (by decide) rfl (fun ls hl => ?_)
      refine lv_iload hx hb d_Re_hasDirectory_56 (lv_at hl 0 rfl) ?_
      refine lv_if_gt (tgt := 79) hx hb d_Re_hasDirectory_58 (by decide) (fun hc_46 => ?_) (fun hc_46 => ?_)
      · skip
        have ic_47 : 0 < r_40.toInt := iLt hc_46
        have iu_48 : r_40.toInt < 2147483648 := iUp _
        refine hm_cut (α := Unit) (fun un9 ls H locs HH => ∃ (ir9 : Int32), ∃ (wq9 : Int32), (lv_has ls 9 [(0, .ref r9), (1, .ref e9), (2, .int v_16), (3, .int v_18), (4, .ref u9), (5, .int rc9), (6, .int at9), (7, .int r_40), (8, .int ir9)]) ∧ (hm D vwCl G HH H) ∧ (s.heap.size ≤ H.size) ∧ (hLc G.P locs) ∧ (TI τ t n HH) ∧ (kf τ [(10, 1), (7, 1), (10, 2)] [r9] h HH) ∧ (zb ir9) ∧ (HH r9 = some (.inr (5, [.ref tb, .ref td, .ref md, .ref nd, .int wq9]))) ∧ (∃ c', c8 ≤ c' ∧ RN t HH nd s8 o8 sl8 c' ∧ (ir9 = 1 → RD t n HH nd s8 o8 sl8 c'))) 126 (fun un9 => []) ?_ (fun J126 => ?_)
        · skip
          rintro un9 ls H locs HH ⟨ir9, wq9, hl, hH, hz, hLo, hT, hkf, P_ir9, F_r9, hJ9⟩
          refine lv_iload hx hb d_Re_hasDirectory_126 (lv_at hl 8 rfl) ?_
          refine lv_if_ne (tgt := 138) hx hb d_Re_hasDirectory_128 (by decide) (fun hc_49 => ?_) (fun hc_49 => ?_)
          · skip
            obtain ⟨c7, q71, q72, q73⟩ := hJ9
            have hR9 := q73 (by
              rcases P_ir9 with hq7 | hq7
              · exact absurd hq7 hc_49
              · exact hq7)
            obtain ⟨j_50, e_51⟩ : ∃ z : Int32, z = rc9 + 1 := ⟨_, rfl⟩
            refine lv_iinc (v := j_50) (lv' := [(5, .int j_50), (0, .ref r9), (1, .ref e9), (2, .int v_16), (3, .int v_18), (4, .ref u9), (6, .int at9), (7, .int r_40), (8, .int ir9)]) hx hb d_Re_hasDirectory_138 hl (k := 5) rfl e_51.symm (by decide) rfl (fun ls hl => ?_)
            refine lv_iload hx hb d_Re_hasDirectory_141 (lv_at hl 6 rfl) ?_
            refine lv_iload hx hb d_Re_hasDirectory_143 (lv_at hl 7 rfl) ?_
            refine lv_iadd hx hb d_Re_hasDirectory_145 ?_
            refine lv_topi (fun v_52 e_53 => ?_)
            have is_54 : v_52.toInt = at9.toInt + r_40.toInt := by rw [e_53]; exact iAdd (by omega) (by omega)
            refine lv_istore (lv' := [(6, .int v_52), (5, .int j_50), (0, .ref r9), (1, .ref e9), (2, .int v_16), (3, .int v_18), (4, .ref u9), (7, .int r_40), (8, .int ir9)]) hx hb d_Re_hasDirectory_146 hl (by decide) rfl (fun ls hl => ?_)
            refine lv_goto (tgt := 39) hx hb d_Re_hasDirectory_148 (by decide) ?_
            exact ih39 ((v_18.toInt + 4096 - v_52.toInt).toNat) ls _ locs _ (by rw [hk39]; omega) ⟨j_50, v_52, c7, wq9, rfl, (lv_sub hl [2, 3, 4, 5, 6, 1, 0] rfl), hH, hz, hLo, hT, hkf, F_r9, hR9, q71, ⟨by omega, by omega⟩⟩
          · skip
            have ic_55 : ir9.toInt = 0 := congrArg Int32.toInt hc_49
            refine lv_aload_n hx hb d_Re_hasDirectory_131 rfl (lv_at hl 0 rfl) ?_
            refine lv_iload hx hb d_Re_hasDirectory_132 (lv_at hl 6 rfl) ?_
            refine hm_calli (va_runV (As := [.int at9]) (b := r9) (rest := []) ⟨hx, hb, hml, hown, hts⟩ (t_wrongAt l D t G ak av HH τ n r9 at9 tb td md nd wq9  hn hT T_r9  F_r9) ⟨cw9B 1 hts mw_331 mw_333 mw_332 rfl rfl (by decide +kernel) ⟨Nat.le_of_ble_eq_true rfl, Nat.le_of_ble_eq_true rfl⟩, hts _ mw_334, hts _ mw_335⟩ (hP_V (q := (R_Re, F_Re, 5)) kE_ok hE hK hH F_r9 rfl) rfl rfl hl.1 rfl (lv_room (Nat.le_of_ble_eq_true rfl)) d_Re_hasDirectory_134 ⟨Nat.le_of_ble_eq_true rfl, Nat.le_of_ble_eq_true rfl⟩) hLo (fun r_56 h_57 H_58 locs hp_60 hH z_59 hLo => ?_)
            have hz : s.heap.size ≤ H_58.size := Nat.le_trans hz z_59
            have hT0 := hT
            obtain ⟨c_61, hT, kf_63, xp_62⟩ := hp_60
            have hkf : kf τ [(10, 1), (7, 1), (10, 2)] [r9] h h_57 := kf_tr hkf kf_63 (List.forall_mem_nil _) (List.forall_mem_cons.mpr ⟨Or.inl (by simp), List.forall_mem_nil _⟩)
            obtain ⟨⟨wp_64, F_r9⟩, rfl⟩ := xp_62
            obtain ⟨c7, q71, q72, q73⟩ := hJ9
            have hq7 : RN t h_57 nd s8 o8 sl8 c7 := RN_kf hT0 T_nd q72 kf_63 (by simp) (by simp) (List.forall_mem_cons.mpr ⟨⟨(fun z => by have := z.symm.trans T_r9; simp at this), (fun z => by have := z.symm.trans T_r9; simp at this)⟩, List.forall_mem_nil _⟩) (knp_kf knp_rf kf_63 (by simp) (List.forall_mem_cons.mpr ⟨(fun z => by have := z.symm.trans T_r9; simp at this), List.forall_mem_nil _⟩))
            exact W.zret (v := 0) hx hb hr (by decide) (fun t9 ht hW => ⟨0, h_57, rfl, ⟨zb0, hT, hkf, ⟨⟨_, F_r9⟩, ⟨c7, q71, hq7, fun z => absurd z (by decide)⟩⟩⟩, by rw [ht]; exact hH, by rw [ht]; exact hz⟩) hLo d_Re_hasDirectory_137
        · skip
          refine lv_iload hx hb d_Re_hasDirectory_79 (lv_at hl 6 rfl) ?_
          refine lv_if_ne (tgt := 97) hx hb d_Re_hasDirectory_81 (by decide) (fun hc_65 => ?_) (fun hc_65 => ?_)
          · skip
            refine lv_iload hx hb d_Re_hasDirectory_97 (lv_at hl 6 rfl) ?_
            refine lv_iconst (v := 1) hx hb d_Re_hasDirectory_99 (by decide) ?_
            refine lv_icmp_ne (tgt := 117) hx hb d_Re_hasDirectory_100 (by decide) (fun hc_66 => ?_) (fun hc_66 => ?_)
            · skip
              refine lv_aload_n hx hb d_Re_hasDirectory_117 rfl (lv_at hl 1 rfl) ?_
              refine lv_iload hx hb d_Re_hasDirectory_118 (lv_at hl 7 rfl) ?_
              refine lv_aload_n hx hb d_Re_hasDirectory_120 rfl (lv_at hl 2 rfl) ?_
              refine hm_calli (va_runV (As := [.int at9, .ref e9]) (b := r9) (rest := []) ⟨hx, hb, hml, hown, hts⟩ (t_takesNode l D t G ak av hh39 τ n r9 at9 e9 tb td md nd wp9 s8 o8 c9 sl8  hn hT T_r9 T_e9  F_r9 hR9 (RD_live (t := t) (n := n) (h := h) (P := nd) (s := s8) (o := o8) hlv hcc)) ⟨cw9B 2 hts mw_388 mw_389 mw_332 rfl rfl (by decide +kernel) ⟨Nat.le_of_ble_eq_true rfl, Nat.le_of_ble_eq_true rfl⟩, hts _ mw_390, hts _ mw_391⟩ (hP_V (q := (R_Re, F_Re, 5)) kE_ok hE hK hH F_r9 rfl) rfl rfl hl.1 rfl (lv_room (Nat.le_of_ble_eq_true rfl)) d_Re_hasDirectory_121 ⟨Nat.le_of_ble_eq_true rfl, Nat.le_of_ble_eq_true rfl⟩) hLo (fun r_67 h_68 H_69 locs hp_71 hH z_70 hLo => ?_)
              have hz : s.heap.size ≤ H_69.size := Nat.le_trans hz z_70
              have hT0 := hT
              obtain ⟨c_72, hT, kf_74, xp_73⟩ := hp_71
              have F_r9 : h_68 r9 = some (.inr (5, [.ref tb, .ref td, .ref md, .ref nd, .int wp9])) := kf_at kf_74 T_r9 (by decide) (tnc (by decide) (tnc (by decide) tn0)) nm0 F_r9
              have F_md : h_68 md = some (.inr (0, [.ref v_37, .int v_39])) := kf_at kf_74 T_md (by decide) (tnc (by decide) (tnc (by decide) tn0)) nm0 F_md
              have hkf : kf τ [(10, 1), (7, 1), (10, 2)] [r9] h h_68 := kf_tr hkf kf_74 (List.forall_mem_cons.mpr ⟨List.mem_cons_self, List.forall_mem_cons.mpr ⟨(List.mem_cons_of_mem _ List.mem_cons_self), List.forall_mem_nil _⟩⟩) (List.forall_mem_nil _)
              refine lv_istore (lv' := [(8, .int r_67), (7, .int r_40), (0, .ref r9), (1, .ref e9), (2, .int v_16), (3, .int v_18), (4, .ref u9), (5, .int rc9), (6, .int at9)]) hx hb d_Re_hasDirectory_124 hl (by decide) rfl (fun ls hl => ?_)
              exact J126 () _ _ _ _ ⟨r_67, wp9, (lv_sub hl [2, 3, 4, 5, 6, 7, 8, 1, 0] rfl), hH, hz, hLo, hT, hkf, c_72, F_r9, (by obtain ⟨c7, q1, q2, q3⟩ := xp_73; exact ⟨c7, by omega, q2, q3⟩)⟩
            · skip
              have ic_75 : rc9.toInt = 1 := congrArg Int32.toInt hc_66
              refine lv_aload_n hx hb d_Re_hasDirectory_103 rfl (lv_at hl 1 rfl) ?_
              refine lv_iload hx hb d_Re_hasDirectory_104 (lv_at hl 7 rfl) ?_
              refine lv_iconst (v := 1) hx hb d_Re_hasDirectory_106 (by decide) ?_
              refine lv_aload hx hb d_Re_hasDirectory_107 (lv_at hl 5 rfl) ?_
              refine hm_calli (va_runV (As := [.int at9, .int 1, .ref u9]) (b := r9) (rest := []) ⟨hx, hb, hml, hown, hts⟩ (t_saysDir l D t G ak av hh39 τ n 1 r9 at9 1 u9 tb td md nd wp9  hn hT T_r9 P_u9  F_r9) ⟨cw9B 3 hts mw_392 mw_393 mw_332 rfl rfl (by decide +kernel) ⟨Nat.le_of_ble_eq_true rfl, Nat.le_of_ble_eq_true rfl⟩, hts _ mw_394, hts _ mw_395⟩ (hP_V (q := (R_Re, F_Re, 5)) kE_ok hE hK hH F_r9 rfl) rfl rfl hl.1 rfl (lv_room (Nat.le_of_ble_eq_true rfl)) d_Re_hasDirectory_109 ⟨Nat.le_of_ble_eq_true rfl, Nat.le_of_ble_eq_true rfl⟩) hLo (fun r_76 h_77 H_78 locs hp_80 hH z_79 hLo => ?_)
              have hz : s.heap.size ≤ H_78.size := Nat.le_trans hz z_79
              have hT0 := hT
              obtain ⟨c_81, hT, kf_83⟩ := hp_80
              have F_r9 : h_77 r9 = some (.inr (5, [.ref tb, .ref td, .ref md, .ref nd, .int wp9])) := kf_at kf_83 T_r9 (by decide) (tnc (by decide) tn0) nm0 F_r9
              have F_md : h_77 md = some (.inr (0, [.ref v_37, .int v_39])) := kf_at kf_83 T_md (by decide) (tnc (by decide) tn0) nm0 F_md
              have hkf : kf τ [(10, 1), (7, 1), (10, 2)] [r9] h h_77 := kf_tr hkf kf_83 (List.forall_mem_cons.mpr ⟨(List.mem_cons_of_mem _ (List.mem_cons_of_mem _ List.mem_cons_self)), List.forall_mem_nil _⟩) (List.forall_mem_nil _)
              have hR9 : RD t n h_77 nd s8 o8 sl8 c9 := RD_kf hT0 T_nd hR9 kf_83 (by simp) (by simp) (by simp) (List.forall_mem_nil _)
              refine lv_istore (lv' := [(8, .int r_76), (7, .int r_40), (0, .ref r9), (1, .ref e9), (2, .int v_16), (3, .int v_18), (4, .ref u9), (5, .int rc9), (6, .int at9)]) hx hb d_Re_hasDirectory_112 hl (by decide) rfl (fun ls hl => ?_)
              refine lv_goto (tgt := 126) hx hb d_Re_hasDirectory_114 (by decide) ?_
              exact J126 () _ _ _ _ ⟨r_76, wp9, (lv_sub hl [2, 3, 4, 5, 6, 7, 8, 1, 0] rfl), hH, hz, hLo, hT, hkf, c_81, F_r9, ⟨c9, hcc, RD_RN hR9, fun _ => hR9⟩⟩
          · skip
            have ic_84 : rc9.toInt = 0 := congrArg Int32.toInt hc_65
            refine lv_aload_n hx hb d_Re_hasDirectory_84 rfl (lv_at hl 1 rfl) ?_
            refine lv_iload hx hb d_Re_hasDirectory_85 (lv_at hl 7 rfl) ?_
            refine lv_iconst (v := 0) hx hb d_Re_hasDirectory_87 (by decide) ?_
            refine lv_aload_n hx hb d_Re_hasDirectory_88 rfl (lv_at hl 2 rfl) ?_
            refine hm_calli (va_runV (As := [.int at9, .int 0, .ref e9]) (b := r9) (rest := []) ⟨hx, hb, hml, hown, hts⟩ (t_saysDir l D t G ak av hh39 τ n 1 r9 at9 0 e9 tb td md nd wp9  hn hT T_r9 T_e9  F_r9) ⟨cw9B 3 hts mw_392 mw_393 mw_332 rfl rfl (by decide +kernel) ⟨Nat.le_of_ble_eq_true rfl, Nat.le_of_ble_eq_true rfl⟩, hts _ mw_394, hts _ mw_395⟩ (hP_V (q := (R_Re, F_Re, 5)) kE_ok hE hK hH F_r9 rfl) rfl rfl hl.1 rfl (lv_room (Nat.le_of_ble_eq_true rfl)) d_Re_hasDirectory_89 ⟨Nat.le_of_ble_eq_true rfl, Nat.le_of_ble_eq_true rfl⟩) hLo (fun r_85 h_86 H_87 locs hp_89 hH z_88 hLo => ?_)
            have hz : s.heap.size ≤ H_87.size := Nat.le_trans hz z_88
            have hT0 := hT
            obtain ⟨c_90, hT, kf_92⟩ := hp_89
            have F_r9 : h_86 r9 = some (.inr (5, [.ref tb, .ref td, .ref md, .ref nd, .int wp9])) := kf_at kf_92 T_r9 (by decide) (tnc (by decide) tn0) nm0 F_r9
            have F_md : h_86 md = some (.inr (0, [.ref v_37, .int v_39])) := kf_at kf_92 T_md (by decide) (tnc (by decide) tn0) nm0 F_md
            have hkf : kf τ [(10, 1), (7, 1), (10, 2)] [r9] h h_86 := kf_tr hkf kf_92 (List.forall_mem_cons.mpr ⟨(List.mem_cons_of_mem _ (List.mem_cons_of_mem _ List.mem_cons_self)), List.forall_mem_nil _⟩) (List.forall_mem_nil _)
            have hR9 : RD t n h_86 nd s8 o8 sl8 c9 := RD_kf hT0 T_nd hR9 kf_92 (by simp) (by simp) (by simp) (List.forall_mem_nil _)
            refine lv_istore (lv' := [(8, .int r_85), (7, .int r_40), (0, .ref r9), (1, .ref e9), (2, .int v_16), (3, .int v_18), (4, .ref u9), (5, .int rc9), (6, .int at9)]) hx hb d_Re_hasDirectory_92 hl (by decide) rfl (fun ls hl => ?_)
            refine lv_goto (tgt := 126) hx hb d_Re_hasDirectory_94 (by decide) ?_
            exact J126 () _ _ _ _ ⟨r_85, wp9, (lv_sub hl [2, 3, 4, 5, 6, 7, 8, 1, 0] rfl), hH, hz, hLo, hT, hkf, c_90, F_r9, ⟨c9, hcc, RD_RN hR9, fun _ => hR9⟩⟩
      · skip
        have ic_93 : r_40.toInt ≤ 0 := iNl hc_46
        refine lv_iload hx hb d_Re_hasDirectory_61 (lv_at hl 7 rfl) ?_
        refine lv_sipush (v := 2048) hx hb d_Re_hasDirectory_63 (by decide) ?_
        refine lv_iload hx hb d_Re_hasDirectory_66 (lv_at hl 7 rfl) ?_
        refine lv_sipush (v := 2048) hx hb d_Re_hasDirectory_68 (by decide) ?_
        refine lv_irem hx hb d_Re_hasDirectory_71 (by decide) ?_
        refine lv_topi (fun v_94 e_95 => ?_)
        have id_96 : 0 ≤ at9.toInt → v_94.toInt = at9.toInt % 2048 := fun h9 => by rw [e_95]; exact i_mod (d := 2048) (by decide) h9
        refine lv_isub hx hb d_Re_hasDirectory_72 ?_
        refine lv_topi (fun v_97 e_98 => ?_)
        have is_99 : v_97.toInt = 2048 - v_94.toInt := by rw [e_98]; exact iSubL 2048 rfl (by omega) (by omega)
        refine lv_iadd hx hb d_Re_hasDirectory_73 ?_
        refine lv_topi (fun v_100 e_101 => ?_)
        have is_102 : v_100.toInt = at9.toInt + v_97.toInt := by rw [e_101]; exact iAdd (by omega) (by omega)
        refine lv_istore (lv' := [(6, .int v_100), (7, .int r_40), (0, .ref r9), (1, .ref e9), (2, .int v_16), (3, .int v_18), (4, .ref u9), (5, .int rc9)]) hx hb d_Re_hasDirectory_74 hl (by decide) rfl (fun ls hl => ?_)
        refine lv_goto (tgt := 148) hx hb d_Re_hasDirectory_76 (by decide) ?_
        refine lv_goto (tgt := 39) hx hb d_Re_hasDirectory_148 (by decide) ?_
        exact ih39 ((v_18.toInt + 4096 - v_100.toInt).toNat) ls _ locs _ (by rw [hk39]; omega) ⟨rc9, v_100, c9, wp9, rfl, (lv_sub hl [2, 3, 4, 5, 6, 7, 0] rfl), hH, hz, hLo, hT, hkf, F_r9, hR9, hcc, ⟨by omega, by omega⟩⟩
  · skip
    refine lv_aload_n hx hb d_Re_hasDirectory_16 rfl (lv_at hl 3 rfl) ?_
    refine hm_get (ci := 1) (v := va_rf v_2) (C := R_No) (T := F_No) (N := 11) hx hb hts ig_No hown hK hH F_e9 rfl 1 (by decide) (hts _ mw_381) (fun _ h9 => h9) rfl d_Re_hasDirectory_17 ?_
    rcases v_2 with _ | q_103
    · skip
      refine lv_ifnonnullN hx hb d_Re_hasDirectory_20 ?_
      refine lv_aload_n hx hb d_Re_hasDirectory_23 rfl (lv_at hl 3 rfl) ?_
      refine lv_goto (tgt := 31) hx hb d_Re_hasDirectory_24 (by decide) ?_
      exact J31 e9 _ _ _ _ ⟨(lv_sub hl [2, 3, 1, 0] rfl), hH, hz, hLo, rfl, T_e9⟩
    · skip
      have T_104 := c_3 q_103 rfl
      refine lv_ifnonnull (tgt := 27) hx hb d_Re_hasDirectory_20 (by decide) ?_
      refine lv_aload_n hx hb d_Re_hasDirectory_27 rfl (lv_at hl 3 rfl) ?_
      refine hm_get (ci := 1) (v := .ref q_103) (C := R_No) (T := F_No) (N := 11) hx hb hts ig_No hown hK hH F_e9 rfl 1 (by decide) (hts _ mw_381) (fun _ h9 => h9) rfl d_Re_hasDirectory_28 ?_
      exact J31 q_103 _ _ _ _ ⟨(lv_sub hl [2, 3, 1, 0] rfl), hH, hz, hLo, rfl, T_104⟩
