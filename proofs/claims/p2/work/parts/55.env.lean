set_option maxRecDepth 100000 in
theorem mw_1077 : Cond.instantiable R_Di 9 ∈ lw_g := lw_gin (List.mem_append_right _ (List.mem_of_getElem? (i := 23) rfl)) (by decide +kernel)
set_option maxRecDepth 100000 in
theorem mw_1078 : Cond.instantiable R_Mo 41 ∈ lw_g := lw_gin (List.mem_append_right _ (List.mem_of_getElem? (i := 906) rfl)) (by decide +kernel)
def tmS : Nat → Term
  | 0 => .string R_Pg 38
  | 1 => .string R_Pg 44
  | _ => .string R_No 64
set_option maxRecDepth 100000 in
set_option maxHeartbeats 4000000 in
theorem env_S {b : Nat} {s : State} (hgv : (Jvm.Cond.and given_1 narrow_1).before #[Value.ref b] s = true) : ∃ ak av : Nat → Nat, vk_S 3 sLen sByt ak av (kA (gNew s.heap)) s s.heap ∧ ∀ i : Nat, i < 3 → (tmS i).eval #[Value.ref b] s none [] s = some (.ref (ak i)) := by
  have hs := flat_of_before _ hgv
  have two : ∀ i : Nat, i < 3 → i = 0 ∨ i = 1 ∨ i = 2 := fun i hi => by omega
  refine vk_Sof (tm := tmS) (len := sLen) (byt := sByt) ?_ ?_ ?_ ?_ ?_ ?_ ?_ (fun a ha => Nat.not_le.mpr ha)
  · intro i hi
    rcases two i hi with rfl | rfl | rfl <;> decide
  · intro i hi
    rcases two i hi with rfl | rfl | rfl
    · exact hs _ (by decide +kernel)
    · exact hs _ (by decide +kernel)
    · exact hs _ (by decide +kernel)
  · intro i hi
    rcases two i hi with rfl | rfl | rfl
    · exact hs _ (by decide +kernel)
    · exact hs _ (by decide +kernel)
    · exact hs _ (by decide +kernel)
  · intro i hi
    rcases two i hi with rfl | rfl | rfl
    · exact hs _ (by decide +kernel)
    · exact hs _ (by decide +kernel)
    · exact hs _ (by decide +kernel)
  · intro i hi
    rcases two i hi with rfl | rfl | rfl
    · exact hs _ (by decide +kernel)
    · exact hs _ (by decide +kernel)
    · exact hs _ (by decide +kernel)
  · intro i hi j hj
    rcases two i hi with rfl | rfl | rfl
    · rcases (show j = 0 ∨ j = 1 ∨ j = 2 ∨ j = 3 ∨ j = 4 by have : j < 5 := hj; omega) with rfl | rfl | rfl | rfl | rfl
      · exact hs _ (by decide +kernel)
      · exact hs _ (by decide +kernel)
      · exact hs _ (by decide +kernel)
      · exact hs _ (by decide +kernel)
      · exact hs _ (by decide +kernel)
    · rcases (show j = 0 ∨ j = 1 ∨ j = 2 ∨ j = 3 by have : j < 4 := hj; omega) with rfl | rfl | rfl | rfl
      · exact hs _ (by decide +kernel)
      · exact hs _ (by decide +kernel)
      · exact hs _ (by decide +kernel)
      · exact hs _ (by decide +kernel)
    · rcases (show j = 0 ∨ j = 1 ∨ j = 2 by have : j < 3 := hj; omega) with rfl | rfl | rfl
      · exact hs _ (by decide +kernel)
      · exact hs _ (by decide +kernel)
      · exact hs _ (by decide +kernel)
  · intro i j hi hj hne
    rcases two i hi with rfl | rfl | rfl
    · rcases two j hj with rfl | rfl | rfl
      · exact absurd rfl hne
      · exact Or.inl (hs _ (by decide +kernel))
      · exact Or.inr (hs _ (by decide +kernel))
    · rcases two j hj with rfl | rfl | rfl
      · exact Or.inr (hs _ (by decide +kernel))
      · exact absurd rfl hne
      · exact Or.inr (hs _ (by decide +kernel))
    · rcases two j hj with rfl | rfl | rfl
      · exact Or.inl (hs _ (by decide +kernel))
      · exact Or.inl (hs _ (by decide +kernel))
      · exact absurd rfl hne
set_option maxRecDepth 100000 in
set_option maxHeartbeats 4000000 in
theorem env_K {b : Nat} {s : State} (htb : ∀ w ∈ lw_tbl, w.before #[Value.ref b] s = true) (hts : ∀ w ∈ lw_g, w.before #[Value.ref b] s = true) : ∃ (D : va_G) (t : Nat → ClassId), va_K D vwCl (tyG t) s := by
  obtain ⟨c0, i0, k0⟩ := u_known (ws := lw_g) hts ig_Me (hts _ mw_561)
  obtain ⟨c1, i1, k1⟩ := u_known (ws := lw_g) hts ig_No (hts _ mw_530)
  obtain ⟨c2, i2, k2⟩ := u_known (ws := lw_g) hts ig_Ns (hts _ mw_831)
  obtain ⟨c3, i3, k3⟩ := u_known (ws := lw_g) hts ig_Pg (hts _ mw_539)
  obtain ⟨c4, i4, k4⟩ := u_known (ws := lw_g) hts ig_Po (hts _ mw_535)
  obtain ⟨c5, i5, k5⟩ := u_known (ws := lw_g) hts ig_Re (hts _ mw_827)
  obtain ⟨c6, i6, k6⟩ := u_known (ws := lw_g) hts ig_Se (hts _ mw_525)
  obtain ⟨c7, i7, k7⟩ := u_known (ws := lw_g) hts ig_Wr (hts _ mw_823)
  obtain ⟨c8, i8, k8⟩ := u_known (ws := lw_g) hts ig_Di (hts _ mw_1077)
  obtain ⟨c9, i9, k9⟩ := u_known (ws := lw_g) hts ig_Mo (hts _ mw_1078)
  obtain ⟨a0, d0, e0, x0, y0, w0⟩ := Cond.arrayClass_spec (htb _ (List.mem_append_right _ (List.mem_of_getElem? (i := 67) rfl)))
  obtain ⟨a1, d1, e1, x1, y1, w1⟩ := Cond.arrayClass_spec (htb _ (List.mem_append_right _ (List.mem_of_getElem? (i := 1040) rfl)))
  obtain ⟨a2, d2, e2, x2, y2, w2⟩ := Cond.arrayClass_spec (htb _ (List.mem_append_right _ (List.mem_of_getElem? (i := 1041) rfl)))
  obtain ⟨a3, d3, e3, x3, y3, w3⟩ := Cond.arrayClass_spec (htb _ (List.mem_append_right _ (List.mem_of_getElem? (i := 1042) rfl)))
  obtain ⟨e4, a4, d4, v4, -, y4, w4, x4⟩ := Cond.arrayOver_spec (htb _ (List.mem_append_right _ (List.mem_of_getElem? (i := 177) rfl)))
  obtain ⟨e5, a5, d5, v5, -, y5, w5, x5⟩ := Cond.arrayOver_spec (htb _ (List.mem_append_right _ (List.mem_of_getElem? (i := 204) rfl)))
  refine ⟨(fun c => ([c0, c1, c2, c3, c4, c5, c6, c7, c8, c9] : List Nat).getD c 0, fun c => ([i0, i1, i2, i3, i4, i5, i6, i7, i8, i9] : List (Nat → Nat)).getD c (fun _ => 0)), fun k => ([a0, a1, a2, a3, a4, a5] : List Nat).getD k 0, fun c q hq => ?_, fun k q hq => ?_⟩
  · match c, hq with
    | 0, hq =>
      cases hq
      exact k0
    | 1, hq =>
      cases hq
      exact k1
    | 2, hq =>
      cases hq
      exact k2
    | 3, hq =>
      cases hq
      exact k3
    | 4, hq =>
      cases hq
      exact k4
    | 5, hq =>
      cases hq
      exact k5
    | 6, hq =>
      cases hq
      exact k6
    | 7, hq =>
      cases hq
      exact k7
    | 8, hq =>
      cases hq
      exact k8
    | 9, hq =>
      cases hq
      exact k9
    | (j + 10), hq => exact absurd hq (by simp [vwCl])
  · match k, hq with
    | 0, hq =>
      cases hq
      exact ⟨fun n z => ⟨fun k h => (by cases h), d0, y0, e0, w0⟩, x0⟩
    | 1, hq =>
      cases hq
      exact ⟨fun n z => ⟨fun k h => (by cases h), d1, y1, e1, w1⟩, x1⟩
    | 2, hq =>
      cases hq
      exact ⟨fun n z => ⟨fun k h => (by cases h), d2, y2, e2, w2⟩, x2⟩
    | 3, hq =>
      cases hq
      exact ⟨fun n z => ⟨fun k h => (by cases h), d3, y3, e3, w3⟩, x3⟩
    | 4, hq =>
      cases hq
      exact ⟨fun n z => ⟨fun k h => (by cases h), d4, y4, e4, w4⟩, d4, e4, y4, w4, v4, x4⟩
    | 5, hq =>
      cases hq
      exact ⟨fun n z => ⟨fun k h => (by cases h), d5, y5, e5, w5⟩, d5, e5, y5, w5, v5, x5⟩
    | (j + 6), hq => exact absurd hq (by simp [tyG])
set_option maxRecDepth 100000 in
theorem env_N {b : Nat} {s : State} (htb : ∀ w ∈ lw_tbl, w.before #[Value.ref b] s = true) : (∀ q ∈ nFl, va_Nw (.fieldLinkNest q.1 q.2.1 q.2.2.1 q.2.2.2.1 q.2.2.2.2.1 q.2.2.2.2.2) s) ∧ (∀ q ∈ nMl, va_Nw (.methodLinkNest q.1 q.2.1 q.2.2.1 q.2.2.2) s) ∧ (∀ C ∈ (["WriteOnceDisc$Node", "WriteOnceDisc$Sector"] : List String), va_AO C s) :=
  ⟨List.forall_mem_nil _, List.forall_mem_cons.mpr ⟨va_Nw.of rfl (htb _ (List.mem_append_right _ (List.mem_of_getElem? (i := 32) rfl))), List.forall_mem_cons.mpr ⟨va_Nw.of rfl (htb _ (List.mem_append_right _ (List.mem_of_getElem? (i := 38) rfl))), List.forall_mem_cons.mpr ⟨va_Nw.of rfl (htb _ (List.mem_append_right _ (List.mem_of_getElem? (i := 78) rfl))), List.forall_mem_cons.mpr ⟨va_Nw.of rfl (htb _ (List.mem_append_right _ (List.mem_of_getElem? (i := 86) rfl))), List.forall_mem_cons.mpr ⟨va_Nw.of rfl (htb _ (List.mem_append_right _ (List.mem_of_getElem? (i := 178) rfl))), List.forall_mem_cons.mpr ⟨va_Nw.of rfl (htb _ (List.mem_append_right _ (List.mem_of_getElem? (i := 206) rfl))), List.forall_mem_cons.mpr ⟨va_Nw.of rfl (htb _ (List.mem_append_right _ (List.mem_of_getElem? (i := 385) rfl))), List.forall_mem_cons.mpr ⟨va_Nw.of rfl (htb _ (List.mem_append_right _ (List.mem_of_getElem? (i := 551) rfl))), List.forall_mem_cons.mpr ⟨va_Nw.of rfl (htb _ (List.mem_append_right _ (List.mem_of_getElem? (i := 671) rfl))), List.forall_mem_cons.mpr ⟨va_Nw.of rfl (htb _ (List.mem_append_right _ (List.mem_of_getElem? (i := 676) rfl))), List.forall_mem_cons.mpr ⟨va_Nw.of rfl (htb _ (List.mem_append_right _ (List.mem_of_getElem? (i := 702) rfl))), List.forall_mem_cons.mpr ⟨va_Nw.of rfl (htb _ (List.mem_append_right _ (List.mem_of_getElem? (i := 714) rfl))), List.forall_mem_nil _⟩⟩⟩⟩⟩⟩⟩⟩⟩⟩⟩⟩, List.forall_mem_cons.mpr ⟨va_AO.of (A := #[Value.ref b]) (htb _ (List.mem_append_right _ (List.mem_of_getElem? (i := 177) rfl))), List.forall_mem_cons.mpr ⟨va_AO.of (A := #[Value.ref b]) (htb _ (List.mem_append_right _ (List.mem_of_getElem? (i := 204) rfl))), List.forall_mem_nil _⟩⟩⟩

theorem st_same {a b c : String} {A : Array Value} {s : State} {i j v : Nat} (h : (Cond.eq (.string a i) (.string b j)).before A s = true) (h1 : (Term.string a i).eval A s none [] s = some (.ref v)) : (Term.string b j).eval A s none [] s = some (.ref v) := by
  simp only [Cond.before, Cond.holds, Cond.value] at h
  rw [h1] at h
  cases h2 : (Term.string b j).eval A s none [] s with
  | none => rw [h2] at h; simp at h
  | some w => rw [h2] at h; cases w <;> simp_all
set_option maxRecDepth 100000 in
set_option maxHeartbeats 4000000 in
theorem law_env {b : Nat} {s : State} (htb : ∀ w ∈ lw_tbl, w.before #[Value.ref b] s = true) (hts : ∀ w ∈ lw_g, w.before #[Value.ref b] s = true) (hgv : (Jvm.Cond.and given_1 narrow_1).before #[Value.ref b] s = true) : ∃ (D : va_G) (t : Nat → ClassId) (ak av : Nat → Nat), kE D t (gNew s.heap) ak av s := by
  obtain ⟨D, t, hK⟩ := env_K htb hts
  obtain ⟨ak, av, hV, hev⟩ := env_S hgv
  obtain ⟨n1, n2, n3⟩ := env_N htb
  have hs := flat_of_before _ hgv
  have hA : ∀ a : Nat, a < s.heap.size → ¬ kA (gNew s.heap) a := fun a ha => Nat.not_le.mpr ha
  exact ⟨D, t, ak, av, hK, n1, n2, n3, hV, vk_R.of (htb _ (List.mem_append_right _ (List.mem_of_getElem? (i := 562) rfl))) (hev 0 (by decide)), vk_R.of (htb _ (List.mem_append_right _ (List.mem_of_getElem? (i := 594) rfl))) (hev 1 (by decide)), vk_R.of (htb _ (List.mem_append_right _ (List.mem_of_getElem? (i := 609) rfl))) (st_same (c := "") (a := R_Pg) (i := 44) (hs (Cond.eq (.string R_Pg 44) (.string R_Me 79)) (by decide +kernel)) (hev 1 (by decide))), vk_R.of (htb _ (List.mem_append_right _ (List.mem_of_getElem? (i := 652) rfl))) (st_same (c := "") (a := R_Pg) (i := 38) (hs (Cond.eq (.string R_Pg 38) (.string R_Re 85)) (by decide +kernel)) (hev 0 (by decide))), vk_R.of (htb _ (List.mem_append_right _ (List.mem_of_getElem? (i := 468) rfl))) (hev 2 (by decide)), vk_R.of (htb _ (List.mem_append_right _ (List.mem_of_getElem? (i := 700) rfl))) (st_same (c := "") (a := R_No) (i := 64) (hs (Cond.eq (.string R_No 64) (.string R_Re 154)) (by decide +kernel)) (hev 2 (by decide))), va_Zof (htb _ (List.mem_append_right _ (List.mem_of_getElem? (i := 478) rfl))) (htb _ (List.mem_append_right _ (List.mem_of_getElem? (i := 14) rfl))) (va_eqi (hs _ (by decide +kernel))) hA, va_Zqof (htb _ (List.mem_append_right _ (List.mem_of_getElem? (i := 498) rfl))) (htb _ (List.mem_append_right _ (List.mem_of_getElem? (i := 16) rfl))) (hs _ (by decide +kernel)) hA, va_Zqof (htb _ (List.mem_append_right _ (List.mem_of_getElem? (i := 834) rfl))) (htb _ (List.mem_append_right _ (List.mem_of_getElem? (i := 18) rfl))) (hs _ (by decide +kernel)) hA, va_Zqof (htb _ (List.mem_append_right _ (List.mem_of_getElem? (i := 836) rfl))) (htb _ (List.mem_append_right _ (List.mem_of_getElem? (i := 18) rfl))) (hs _ (by decide +kernel)) hA⟩
set_option maxRecDepth 100000 in
theorem env_T {b : Nat} {s : State} (htb : ∀ w ∈ lw_tbl, w.before #[Value.ref b] s = true) : kT (gNew s.heap) s :=
  ⟨va_Nw.of rfl (htb _ (List.mem_append_right _ (List.mem_of_getElem? (i := 810) rfl))), va_Nw.of rfl (htb _ (List.mem_append_right _ (List.mem_of_getElem? (i := 812) rfl))), va_Nw.of rfl (htb _ (List.mem_append_right _ (List.mem_of_getElem? (i := 814) rfl))), va_Nw.of rfl (htb _ (List.mem_append_right _ (List.mem_of_getElem? (i := 809) rfl))), zL.of (htb _ (List.mem_append_right _ (List.mem_of_getElem? (i := 834) rfl))) (fun a ha => Nat.not_le.mpr ha), zL.of (htb _ (List.mem_append_right _ (List.mem_of_getElem? (i := 836) rfl))) (fun a ha => Nat.not_le.mpr ha)⟩

