theorem d_La_law_33 : decode b_La_law 33 = .ok (.iload 4, 2) := by decide +kernel
theorem d_La_law_35 : decode b_La_law 35 = .ok (.aload_n 0, 1) := by decide +kernel
theorem d_La_law_36 : decode b_La_law 36 = .ok (.arraylength, 1) := by decide +kernel
theorem d_La_law_37 : decode b_La_law 37 = .ok (.bipush 6, 2) := by decide +kernel
theorem d_La_law_39 : decode b_La_law 39 = .ok (.isub, 1) := by decide +kernel
theorem d_La_law_40 : decode b_La_law 40 = .ok (.if_icmp .gt 827, 3) := by decide +kernel
theorem d_La_law_867 : decode b_La_law 867 = .ok (.iconst 1, 1) := by decide +kernel
theorem d_La_law_868 : decode b_La_law 868 = .ok (.ireturn, 1) := by decide +kernel
theorem d_La_law_861 : decode b_La_law 861 = .ok (.iinc 4 6, 3) := by decide +kernel
theorem d_La_law_864 : decode b_La_law 864 = .ok (.goto (-831), 3) := by decide +kernel
theorem d_La_law_43 : decode b_La_law 43 = .ok (.aload_n 0, 1) := by decide +kernel
theorem d_La_law_44 : decode b_La_law 44 = .ok (.iload 4, 2) := by decide +kernel
theorem d_La_law_46 : decode b_La_law 46 = .ok (.iaload, 1) := by decide +kernel
theorem d_La_law_47 : decode b_La_law 47 = .ok (.bipush 31, 2) := by decide +kernel
theorem d_La_law_49 : decode b_La_law 49 = .ok (.iand, 1) := by decide +kernel
theorem d_La_law_50 : decode b_La_law 50 = .ok (.tableswitch 811 0 19 #[94, 119, 142, 211, 304, 353, 378, 459, 472, 485, 498, 523, 548, 585, 598, 638, 663, 703, 731, 771], 94) := by decide +kernel
set_option maxHeartbeats 4000000 in
set_option maxRecDepth 100000 in
theorem law_loop {p : Program} {e : Env} {s : State} {m : MethodId} {below : List Frame} {meth : Method} {c : Code} (l : Launch) (hfl : l.flags = flags0) {b : Nat} {xs : Nat → Int32} (hx : p.tables.exec = Jvm.exec) (hb : c.code = b_La_law) (hr : meth.sig.returnType = ret) (hml : c.maxLocals = 8) (hown : s.vm.findClass R_La = some m.cls) (hts : ∀ w ∈ lw_g, w.before #[Value.ref b] s = true) (hlocks : meth.locks = false) {D : va_G} {t : Nat → ClassId} {ak av : Nat → Nat} {n x mo ou r L9 : Nat} {τm : tM} {A : Nat → Nat} {τ : tM} {L : List Nat} {h1 h3 : hM} {H : Heap} {locs : List Loc} {ls : Array Slot} {cs ss : Nat} {i9 : Int32} (hn : n ≤ 200) (hE0 : kE D t (gNew s.heap) ak av s) (hT0 : kT (gNew s.heap) s) (hXs : va_X b L9 xs s s.heap) (hbl : b < s.heap.size) (hL9 : L9 ≤ 3073) (hr5 : r ≤ 512) (hi : i9.toInt = 1 + 6 * r) (hq : LK D t s n x mo ou τm A τ L h1 h3 H locs r cs ss) (hl : lv_has ls 8 [(4, .int i9), (3, .ref ou), (2, .ref mo), (1, .ref x), (0, .ref b)]) : W p l e room_1 s m #[Value.ref b] below meth c H locs cs ss (lw_Z below #[Value.ref b] s) (F0 m 33 ls []) := by
  have hbA : ¬ P0 s b := Nat.not_le.mpr hbl
  refine hm_loopC (fun k ls H locs h1 cs ss => ∃ (r : Nat) (i9 : Int32) (τ : tM) (L : List Nat) (h3 : hM), k = 600 - r ∧ r ≤ 512 ∧ i9.toInt = 1 + 6 * r ∧ LK D t s n x mo ou τm A τ L h1 h3 H locs r cs ss ∧ lv_has ls 8 [(4, .int i9), (3, .ref ou), (2, .ref mo), (1, .ref x), (0, .ref b)]) ?_ (hh := h1) ⟨r, i9, τ, L, h3, rfl, hr5, hi, hq, hl⟩
  clear hr5 hi hq hl
  rintro k ls H locs h1 cs ss ⟨r, i9, τ, L, h3, rfl, hr5, hi, hq, hl⟩ ih
  have hQ := hq.1
  refine lv_iload hx hb d_La_law_33 (lv_at hl 0 rfl) ?_
  refine lv_aload_n hx hb d_La_law_35 rfl (lv_at hl 4 rfl) ?_
  refine va_slen hx hb hXs hbl hbA hQ.1 d_La_law_36 ?_
  refine lv_bipush (v := 6) hx hb d_La_law_37 (by decide) ?_
  refine lv_isub hx hb d_La_law_39 ?_
  refine lv_topi (fun v21 e22 => ?_)
  have inL : (nI L9).toInt = L9 := nI_toInt (by omega)
  have isv : v21.toInt = (nI L9).toInt - 6 := by rw [e22]; exact iSubK (x := nI L9) 6 rfl (by omega) (by omega)
  refine lv_icmp_gt (tgt := 867) hx hb d_La_law_40 (by decide) (fun hc23 => ?_) (fun hc23 => ?_)
  · skip
    refine lv_iconst (v := 1) hx hb d_La_law_867 (by decide) ?_
    have hcs := hq.2.2.2.2.1
    have hss := hq.2.2.2.2.2
    refine va_forget (fun q hq => hQ.1.2.2 q hq) ?_
    refine W.widen (k := 601024) (n := 7293000) (by omega) (by omega) ?_
    exact lw_ret hx hb hr hlocks d_La_law_868
  · skip
    have ile : i9.toInt ≤ v21.toInt := iNl hc23
    have hiL : 6 * r + 6 < L9 := by omega
    have hr6 : r < 512 := by omega
    have K : ∀ (τ : tM) (L : List Nat) (h1 h3 : hM) (H : Heap) (locs : List Loc) (ls : Array Slot) (cs ss : Nat), LK D t s n x mo ou τm A τ L h1 h3 H locs (r + 1) cs ss → lv_has ls 8 [(4, .int i9), (3, .ref ou), (2, .ref mo), (1, .ref x), (0, .ref b)] → W p l e room_1 s m #[Value.ref b] below meth c H locs cs ss (lw_Z below #[Value.ref b] s) (F0 m 861 ls []) := by
      intro τ L h1 h3 H locs ls cs ss hq hl
      obtain ⟨j9, ej⟩ : ∃ z : Int32, z = i9 + 6 := ⟨_, rfl⟩
      refine lv_iinc (v := j9) (lv' := [(4, .int j9), (3, .ref ou), (2, .ref mo), (1, .ref x), (0, .ref b)]) hx hb d_La_law_861 hl (k := 0) rfl ej.symm (by decide) rfl (fun ls hl => ?_)
      refine lv_goto (tgt := 33) hx hb d_La_law_864 (by decide) ?_
      exact ih (600 - (r + 1)) ls H locs h1 cs ss (by omega) ⟨r + 1, j9, τ, L, h3, rfl, by omega, by rw [ej, iAddK 6 rfl (by omega) (by omega)]; omega, hq, hl⟩
    refine lv_aload_n hx hb d_La_law_43 rfl (lv_at hl 4 rfl) ?_
    refine lv_iload hx hb d_La_law_44 (lv_at hl 0 rfl) ?_
    refine va_sld hx hb hXs hbl hbA hQ.1 (iIn (by omega) (by omega)) d_La_law_46 ?_
    refine lv_topi (fun v24 e25 => ?_)
    refine lv_bipush (v := 31) hx hb d_La_law_47 (by decide) ?_
    refine lv_iand hx hb d_La_law_49 ?_
    obtain ⟨k9, hk9, hke⟩ := sw9 v24
    refine lv_topi (fun v26 e27 => ?_)
    obtain rfl : v26 = nI k9 := e27.trans (hke)
    rcases (show k9 = 0 ∨ k9 = 1 ∨ k9 = 2 ∨ k9 = 3 ∨ k9 = 4 ∨ k9 = 5 ∨ k9 = 6 ∨ k9 = 7 ∨ k9 = 8 ∨ k9 = 9 ∨ k9 = 10 ∨ k9 = 11 ∨ k9 = 12 ∨ k9 = 13 ∨ k9 = 14 ∨ k9 = 15 ∨ k9 = 16 ∨ k9 = 17 ∨ k9 = 18 ∨ k9 = 19 ∨ 20 ≤ k9 by omega) with rfl | rfl | rfl | rfl | rfl | rfl | rfl | rfl | rfl | rfl | rfl | rfl | rfl | rfl | rfl | rfl | rfl | rfl | rfl | rfl | hk2
    · refine lv_tableIn (x := nI 0) (off := 94) (tgt := 144) hx hb d_La_law_50 (by decide) (by decide) rfl (by decide) ?_
      exact law_c0 l hfl hx hb hr hml hown hts hlocks hn hE0 hT0 hXs hbl hr6 hi hiL hq (lv_sub hl [0, 1, 2, 3, 4] rfl) K
    · refine lv_tableIn (x := nI 1) (off := 119) (tgt := 169) hx hb d_La_law_50 (by decide) (by decide) rfl (by decide) ?_
      exact law_c1 l hfl hx hb hr hml hown hts hlocks hn hE0 hT0 hXs hbl hr6 hi hiL hq (lv_sub hl [0, 1, 2, 3, 4] rfl) K
    · refine lv_tableIn (x := nI 2) (off := 142) (tgt := 192) hx hb d_La_law_50 (by decide) (by decide) rfl (by decide) ?_
      exact law_c2 l hfl hx hb hr hml hown hts hlocks hn hE0 hT0 hXs hbl hr6 hi hiL hq (lv_sub hl [0, 1, 2, 3, 4] rfl) K
    · refine lv_tableIn (x := nI 3) (off := 211) (tgt := 261) hx hb d_La_law_50 (by decide) (by decide) rfl (by decide) ?_
      exact law_c3 l hfl hx hb hr hml hown hts hlocks hn hE0 hT0 hXs hbl hr6 hi hiL hq (lv_sub hl [0, 1, 2, 3, 4] rfl) K
    · refine lv_tableIn (x := nI 4) (off := 304) (tgt := 354) hx hb d_La_law_50 (by decide) (by decide) rfl (by decide) ?_
      exact law_c4 l hfl hx hb hr hml hown hts hlocks hn hE0 hT0 hXs hbl hr6 hi hiL hq (lv_sub hl [0, 1, 2, 3, 4] rfl) K
    · refine lv_tableIn (x := nI 5) (off := 353) (tgt := 403) hx hb d_La_law_50 (by decide) (by decide) rfl (by decide) ?_
      exact law_c5 l hfl hx hb hr hml hown hts hlocks hn hE0 hT0 hXs hbl hr6 hi hiL hq (lv_sub hl [0, 1, 2, 3, 4] rfl) K
    · refine lv_tableIn (x := nI 6) (off := 378) (tgt := 428) hx hb d_La_law_50 (by decide) (by decide) rfl (by decide) ?_
      exact law_c6 l hfl hx hb hr hml hown hts hlocks hn hE0 hT0 hXs hbl hr6 hi hiL hq (lv_sub hl [0, 1, 2, 3, 4] rfl) K
    · refine lv_tableIn (x := nI 7) (off := 459) (tgt := 509) hx hb d_La_law_50 (by decide) (by decide) rfl (by decide) ?_
      exact law_c7 l hfl hx hb hr hml hown hts hlocks hn hE0 hT0 hXs hbl hr6 hi hiL hq (lv_sub hl [0, 1, 2, 3, 4] rfl) K
    · refine lv_tableIn (x := nI 8) (off := 472) (tgt := 522) hx hb d_La_law_50 (by decide) (by decide) rfl (by decide) ?_
      exact law_c8 l hfl hx hb hr hml hown hts hlocks hn hE0 hT0 hXs hbl hr6 hi hiL hq (lv_sub hl [0, 1, 2, 3, 4] rfl) K
    · refine lv_tableIn (x := nI 9) (off := 485) (tgt := 535) hx hb d_La_law_50 (by decide) (by decide) rfl (by decide) ?_
      exact law_c9 l hfl hx hb hr hml hown hts hlocks hn hE0 hT0 hXs hbl hr6 hi hiL hq (lv_sub hl [0, 1, 2, 3, 4] rfl) K
    · refine lv_tableIn (x := nI 10) (off := 498) (tgt := 548) hx hb d_La_law_50 (by decide) (by decide) rfl (by decide) ?_
      exact law_c10 l hfl hx hb hr hml hown hts hlocks hn hE0 hT0 hXs hbl hr6 hi hiL hq (lv_sub hl [0, 1, 2, 3, 4] rfl) K
    · refine lv_tableIn (x := nI 11) (off := 523) (tgt := 573) hx hb d_La_law_50 (by decide) (by decide) rfl (by decide) ?_
      exact law_c11 l hfl hx hb hr hml hown hts hlocks hn hE0 hT0 hXs hbl hr6 hi hiL hq (lv_sub hl [0, 1, 2, 3, 4] rfl) K
    · refine lv_tableIn (x := nI 12) (off := 548) (tgt := 598) hx hb d_La_law_50 (by decide) (by decide) rfl (by decide) ?_
      exact law_c12 l hfl hx hb hr hml hown hts hlocks hn hE0 hT0 hXs hbl hr6 hi hiL hq (lv_sub hl [0, 1, 2, 3, 4] rfl) K
    · refine lv_tableIn (x := nI 13) (off := 585) (tgt := 635) hx hb d_La_law_50 (by decide) (by decide) rfl (by decide) ?_
      exact law_c13 l hfl hx hb hr hml hown hts hlocks hn hE0 hT0 hXs hbl hr6 hi hiL hq (lv_sub hl [0, 1, 2, 3, 4] rfl) K
    · refine lv_tableIn (x := nI 14) (off := 598) (tgt := 648) hx hb d_La_law_50 (by decide) (by decide) rfl (by decide) ?_
      exact law_c14 l hfl hx hb hr hml hown hts hlocks hn hE0 hT0 hXs hbl hr6 hi hiL hq (lv_sub hl [0, 1, 2, 3, 4] rfl) K
    · refine lv_tableIn (x := nI 15) (off := 638) (tgt := 688) hx hb d_La_law_50 (by decide) (by decide) rfl (by decide) ?_
      exact law_c15 l hfl hx hb hr hml hown hts hlocks hn hE0 hT0 hXs hbl hr6 hi hiL hq (lv_sub hl [0, 1, 2, 3, 4] rfl) K
    · refine lv_tableIn (x := nI 16) (off := 663) (tgt := 713) hx hb d_La_law_50 (by decide) (by decide) rfl (by decide) ?_
      exact law_c16 l hfl hx hb hr hml hown hts hlocks hn hE0 hT0 hXs hbl hr6 hi hiL hq (lv_sub hl [0, 1, 2, 3, 4] rfl) K
    · refine lv_tableIn (x := nI 17) (off := 703) (tgt := 753) hx hb d_La_law_50 (by decide) (by decide) rfl (by decide) ?_
      exact law_c17 l hfl hx hb hr hml hown hts hlocks hn hE0 hT0 hXs hbl hr6 hi hiL hq (lv_sub hl [0, 1, 2, 3, 4] rfl) K
    · refine lv_tableIn (x := nI 18) (off := 731) (tgt := 781) hx hb d_La_law_50 (by decide) (by decide) rfl (by decide) ?_
      exact law_c18 l hfl hx hb hr hml hown hts hlocks hn hE0 hT0 hXs hbl hr6 hi hiL hq (lv_sub hl [0, 1, 2, 3, 4] rfl) K
    · refine lv_tableIn (x := nI 19) (off := 771) (tgt := 821) hx hb d_La_law_50 (by decide) (by decide) rfl (by decide) ?_
      exact law_c19 l hfl hx hb hr hml hown hts hlocks hn hE0 hT0 hXs hbl hr6 hi hiL hq (lv_sub hl [0, 1, 2, 3, 4] rfl) K
    · refine lv_tableOut (x := nI k9) (tgt := 861) hx hb d_La_law_50 (Or.inr (by rw [nI_toInt (by omega)]; omega)) (by decide) ?_
      exact K τ L h1 h3 H locs ls cs ss (LK_up hq) (lv_sub hl [0, 1, 2, 3, 4] rfl)
