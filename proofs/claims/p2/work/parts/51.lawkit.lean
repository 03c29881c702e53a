
/-! MY OWN ROWS: the law. Two parts of the heap side by side: the object's (with out) and the reference's; each call may write its own part and what is new. -/
def gNew (H : Heap) : hG := ⟨(H, fun q => H.size ≤ q), fun _ h => h⟩
def gD (H : Heap) (h : hM) : hG := ⟨(H, fun q => h q ≠ none ∨ H.size ≤ q), fun _ z => Or.inr z⟩
abbrev P0 (s : State) : Nat → Prop := fun q => s.heap.size ≤ q
theorem hm_none {D : va_G} {cl : List vw_C} {H : Heap} : hm D cl (gNew H) (fun _ => none) H := ⟨⟨Nat.le_refl _, fun _ _ => rfl⟩, fun _ _ h => by cases h⟩
theorem kE_g {D : va_G} {t : Nat → ClassId} {G : hG} {ak av : Nat → Nat} {s : State} {H : Heap} {locs : List Loc} (hE : kE D t (gNew s.heap) ak av s) (hS : va_S (P0 s) s.heap H locs) (hH : G.H = H) (hp : ∀ q, G.P q → P0 s q) : kE D t G ak av s := by
  subst hH
  obtain ⟨k1, k2, k3, k4, z1, y1, y2, y3, y4, y5, y6, z4, z5, z6, z7⟩ := hE
  exact ⟨k1, k2, k3, k4, (vk_S.kept z1 hS.2.1).narrow hp, y1, y2, y3, y4, y5, y6, (va_Z.kept z4 hS.2.1).narrow hp, (va_Zq.kept z5 hS.2.1).narrow hp, (va_Zq.kept z6 hS.2.1).narrow hp, (va_Zq.kept z7 hS.2.1).narrow hp⟩
theorem kF_g {D : va_G} {t : Nat → ClassId} {G : hG} {ak av : Nat → Nat} {s : State} {H : Heap} {locs : List Loc} (hE : kE D t (gNew s.heap) ak av s) (hT : kT (gNew s.heap) s) (hS : va_S (P0 s) s.heap H locs) (hH : G.H = H) (hp : ∀ q, G.P q → P0 s q) : kF D t G ak av s := by
  refine ⟨kE_g hE hS hH hp, hT.1, hT.2.1, hT.2.2.1, hT.2.2.2.1, ?_, ?_⟩
  · subst hH
    exact (zL.kept hT.2.2.2.2.1 hS.2.1).narrow hp
  · subst hH
    exact (zL.kept hT.2.2.2.2.2 hS.2.1).narrow hp
theorem vaS_step {D : va_G} {cl : List vw_C} {G : hG} {h : hM} {s : State} {H H1 : Heap} {locs locs1 : List Loc} (hS : va_S (P0 s) s.heap H locs) (hG : G.H = H) (hp : ∀ q, G.P q → P0 s q) (h1 : hm D cl G h H1) (hL : hLc (P0 s) locs1) : va_S (P0 s) s.heap H1 locs1 := by
  subst hG
  exact ⟨Nat.le_trans hS.1 h1.1.1, fun q hq hn => by rw [h1.1.2 q (fun z => hn (hp q z))]; exact hS.2.1 q hq hn, hL⟩
theorem gD_self {D : va_G} {cl : List vw_C} {G : hG} {h : hM} {H : Heap} (h0 : hm D cl G h H) : hm D cl (gD H h) h H := ⟨⟨Nat.le_refl _, fun _ _ => rfl⟩, fun a e ha => ⟨Or.inl (by rw [ha]; simp), (h0.2 a e ha).2⟩⟩
theorem gD_oth {D : va_G} {cl : List vw_C} {h h' o : hM} {H H1 : Heap} (h0 : hm D cl (gD H o) o H) (hc : hm D cl (gD H h) h' H1) (hd : ∀ q, h q = none ∨ o q = none) : hm D cl (gD H1 o) o H1 := by
  refine ⟨⟨Nat.le_refl _, fun _ _ => rfl⟩, fun a e ha => ⟨Or.inl (by rw [ha]; simp), (h0.2 a e ha).2.kept (hc.1.2 a (fun y => ?_))⟩⟩
  rcases y with y | y
  · rcases hd a with z | z
    · exact y z
    · rw [z] at ha
      cases ha
  · exact absurd y (Nat.not_le.mpr (h0.lt ha))
theorem gD_dom {D : va_G} {cl : List vw_C} {h h' : hM} {H H1 : Heap} (hc : hm D cl (gD H h) h' H1) {q : Nat} (hq : h' q ≠ none) : h q ≠ none ∨ H.size ≤ q := by
  cases hh : h' q with
  | none => exact absurd hh hq
  | some e => exact (hc.2 q e hh).1
def LQ (D : va_G) (s : State) (h1 h3 : hM) (H : Heap) (locs : List Loc) : Prop := va_S (P0 s) s.heap H locs ∧ hm D vwCl (gD H h1) h1 H ∧ hm D vwCl (gD H h3) h3 H ∧ (∀ q, h1 q = none ∨ h3 q = none) ∧ (∀ q, h1 q ≠ none → s.heap.size ≤ q) ∧ (∀ q, h3 q ≠ none → s.heap.size ≤ q)
theorem LQ_sw {D : va_G} {s : State} {h1 h3 : hM} {H : Heap} {locs : List Loc} (hQ : LQ D s h1 h3 H locs) : LQ D s h3 h1 H locs := ⟨hQ.1, hQ.2.2.1, hQ.2.1, fun q => (hQ.2.2.2.1 q).symm, hQ.2.2.2.2.2, hQ.2.2.2.2.1⟩
theorem LQ_px {D : va_G} {s : State} {h1 h3 : hM} {H : Heap} {locs : List Loc} (hQ : LQ D s h1 h3 H locs) : ∀ q, (gD H h1).P q → P0 s q := fun q hq => hq.elim (fun z => hQ.2.2.2.2.1 q z) (fun z => Nat.le_trans hQ.1.1 z)
theorem LQ_x {D : va_G} {s : State} {h1 h3 h' : hM} {H H1 : Heap} {locs locs1 : List Loc} (hQ : LQ D s h1 h3 H locs) (hc : hm D vwCl (gD H h1) h' H1) (hLo : hLc (P0 s) locs1) : LQ D s h' h3 H1 locs1 := by
  have hpx := LQ_px hQ
  obtain ⟨q1, q2, q3, q4, q5, q6⟩ := hQ
  refine ⟨vaS_step q1 rfl hpx hc hLo, gD_self hc, gD_oth q3 hc q4, fun q => ?_, fun q hq => hpx q (gD_dom hc hq), q6⟩
  by_cases hq : h' q = none
  · exact Or.inl hq
  · rcases gD_dom hc hq with z | z
    · exact Or.inr ((q4 q).resolve_left z)
    · refine Or.inr ?_
      cases hh : h3 q with
      | none => rfl
      | some e => exact absurd z (Nat.not_le.mpr (q3.lt hh))
theorem LQ_y {D : va_G} {s : State} {h1 h3 h' : hM} {H H1 : Heap} {locs locs1 : List Loc} (hQ : LQ D s h1 h3 H locs) (hc : hm D vwCl (gD H h3) h' H1) (hLo : hLc (P0 s) locs1) : LQ D s h1 h' H1 locs1 := LQ_sw (LQ_x (LQ_sw hQ) hc hLo)
theorem LQ_py {D : va_G} {s : State} {h1 h3 : hM} {H : Heap} {locs : List Loc} (hQ : LQ D s h1 h3 H locs) : ∀ q, (gD H h3).P q → P0 s q := LQ_px (LQ_sw hQ)
theorem LQ_0 {D : va_G} {s : State} {h1 h3 : hM} {HA HB : Heap} {locs : List Loc} (hS : va_S (P0 s) s.heap HB locs) (v1 : hm D vwCl (gNew s.heap) h1 HA) (v2 : hm D vwCl (gNew HA) h3 HB) : LQ D s h1 h3 HB locs := by
  have hz : s.heap.size ≤ HA.size := v1.1.1
  have g1 : ∀ {q : Nat}, h1 q ≠ none → s.heap.size ≤ q ∧ q < HA.size := fun {q} hq => by
    cases hh : h1 q with
    | none => exact absurd hh hq
    | some e => exact ⟨(v1.2 q e hh).1, v1.lt hh⟩
  have g3 : ∀ {q : Nat}, h3 q ≠ none → HA.size ≤ q := fun {q} hq => by
    cases hh : h3 q with
    | none => exact absurd hh hq
    | some e => exact (v2.2 q e hh).1
  refine ⟨hS, ⟨⟨Nat.le_refl _, fun _ _ => rfl⟩, fun a e ha => ⟨Or.inl (by rw [ha]; simp), (v1.2 a e ha).2.kept (v2.1.2 a (fun y => Nat.not_le.mpr (v1.lt ha) y))⟩⟩, gD_self v2, fun q => ?_, fun q hq => (g1 hq).1, fun q hq => Nat.le_trans hz (g3 hq)⟩
  by_cases h9 : h1 q = none
  · exact Or.inl h9
  · refine Or.inr ?_
    by_cases h8 : h3 q = none
    · exact h8
    · have := (g1 h9).2
      have := g3 h8
      omega
theorem XI_k {τ : tM} {t : Nat → ClassId} {n : Nat} {h h' : hM} {x : Nat} {L : List Nat} (hX : XI τ t n h x L) (hT : TI τ t n h') (hTr : ∀ P, τ P = (7, 0) → TrP t h' P) (hnl : nlp τ h h') (hsp : spz h' x = spz h x) : XI τ t n h' x L ∧ nl L h' + spz h' x ≤ nl L h + spz h x := by
  obtain ⟨-, a2, a3, -, a5, a6⟩ := hX
  exact ⟨⟨hT, a2, a3, hTr, a5, a6⟩, by rw [hsp]; have := nl_mono a5 hnl; omega⟩
theorem X_ob {τ : tM} {t : Nat → ClassId} {n : Nat} {h : hM} {x : Nat} (hT : TI τ t n h) (hx : τ x = (1, 0)) : ∃ fs, h x = some (.inr (8, fs)) := by
  obtain ⟨v0, v1, v2, v3, v4, v5, v6, v7, v8, h1, -⟩ := TI_disc hT hx
  exact ⟨_, h1⟩
def LK (D : va_G) (t : Nat → ClassId) (s : State) (n x mo ou : Nat) (τm : tM) (A : Nat → Nat) (τ : tM) (L : List Nat) (h1 h3 : hM) (H : Heap) (locs : List Loc) (r cs ss : Nat) : Prop := LQ D s h1 h3 H locs ∧ XI τ t n h1 x L ∧ τ ou = (14, 0) ∧ MI τm t n h3 mo A r ∧ cs + (nl L h1 + spz h1 x) ≤ 1000 + r ∧ ss + 2048 * (nl L h1 + spz h1 x) ≤ 2400000 + 6 * r
theorem MI_up {τ : tM} {t : Nat → ClassId} {n : Nat} {h : hM} {mo : Nat} {A : Nat → Nat} {r : Nat} (hM9 : MI τ t n h mo A r) : MI τ t n h mo A (r + 1) := by
  obtain ⟨a1, a2, a3, th, sd, lo, le, wr, ma, nu, di, pl, se, wg, op, b1, b2, b3, b4, b5, b6⟩ := hM9
  exact ⟨a1, a2, a3, th, sd, lo, le, wr, ma, nu, di, pl, se, wg, op, b1, b2, b3, b4, b5, by omega⟩
theorem LK_up {D : va_G} {t : Nat → ClassId} {s : State} {n x mo ou : Nat} {τm : tM} {A : Nat → Nat} {τ : tM} {L : List Nat} {h1 h3 : hM} {H : Heap} {locs : List Loc} {r cs ss : Nat} (hq : LK D t s n x mo ou τm A τ L h1 h3 H locs r cs ss) : LK D t s n x mo ou τm A τ L h1 h3 H locs (r + 1) cs ss :=
  ⟨hq.1, hq.2.1, hq.2.2.1, MI_up hq.2.2.2.1, by have := hq.2.2.2.2.1; omega, by have := hq.2.2.2.2.2; omega⟩
theorem aI_kf {τ : tM} {S : List (Nat × Nat)} {M : List Nat} {h h' : hM} {a i : Nat} (hk : kf τ S M h h') (ha : τ a = (30, i)) (hs : (30, i) ∉ S) (hm9 : a ∉ M) : aI h' a = aI h a := by
  unfold aI
  rw [hk a (by rw [ha]; exact Nat.succ_ne_zero _) (by rw [ha]; exact hs) hm9]
theorem aA {τ : tM} {A : Nat → Nat} {mo i : Nat} (hA : ∀ i, i < 28 → τ (A i) = (30, i)) (hmo : τ mo = (20, 0)) (hi : i < 28) : A i ∉ [mo] := fun z => by
  have h := hA i hi
  rw [List.mem_singleton.mp z, hmo] at h
  exact absurd (congrArg Prod.fst h) (show (20 : Nat) ≠ 30 by decide)
theorem TX_kf {τ : tM} {S : List (Nat × Nat)} {h h' : hM} {A : Nat → Nat} {mo m n : Nat} (hk : kf τ S [mo] h h') (hA : ∀ i, i < 28 → τ (A i) = (30, i)) (hmo : τ mo = (20, 0)) (s4 : (30, 4) ∉ S) (s5 : (30, 5) ∉ S) (s6 : (30, 6) ∉ S) (s8 : (30, 8) ∉ S) (s10 : (30, 10) ∉ S) (s11 : (30, 11) ∉ S) (hT : treeM (aI h (A 4)) (aI h (A 6)) m) (hE : exM (aI h (A 4)) (aI h (A 5)) (aI h (A 8)) (aI h (A 10)) (aI h (A 11)) m n) : treeM (aI h' (A 4)) (aI h' (A 6)) m ∧ exM (aI h' (A 4)) (aI h' (A 5)) (aI h' (A 8)) (aI h' (A 10)) (aI h' (A 11)) m n := by
  have d := fun {i : Nat} (hi : i < 28) => aA (i := i) hA hmo hi
  rw [aI_kf hk (hA 4 (by decide)) s4 (d (by decide)), aI_kf hk (hA 5 (by decide)) s5 (d (by decide)), aI_kf hk (hA 6 (by decide)) s6 (d (by decide)), aI_kf hk (hA 8 (by decide)) s8 (d (by decide)), aI_kf hk (hA 10 (by decide)) s10 (d (by decide)), aI_kf hk (hA 11 (by decide)) s11 (d (by decide))]
  exact ⟨hT, hE⟩
theorem OP_kf {τ : tM} {S : List (Nat × Nat)} {h h' : hM} {A : Nat → Nat} {mo m n : Nat} (hk : kf τ S [mo] h h') (hA : ∀ i, i < 28 → τ (A i) = (30, i)) (hmo : τ mo = (20, 0)) (s25 : (30, 25) ∉ S) (s26 : (30, 26) ∉ S) (hO : opQ (aI h (A 25)) (aI h (A 26)) m n) : opQ (aI h' (A 25)) (aI h' (A 26)) m n := by
  rw [aI_kf hk (hA 25 (by decide)) s25 (aA hA hmo (by decide)), aI_kf hk (hA 26 (by decide)) s26 (aA hA hmo (by decide))]
  exact hO
theorem rm_c {a : Nat} (h : a ≤ 600000) : a ≤ room_1.cells := Nat.le_trans h (Nat.le_of_ble_eq_true rfl)
theorem rm_s {a : Nat} (h : a ≤ 7000000) : a ≤ room_1.slots := Nat.le_trans h (Nat.le_of_ble_eq_true rfl)
/-- the array out gets its tag -/
theorem ouX {τ : tM} {t : Nat → ClassId} {n : Nat} {h : hM} {x ou : Nat} {L : List Nat} {g : Nat → Int64} (hX : XI τ t n h x L) (hn : h ou = none) : XI (tu τ ou (14, 0)) t n (hu h ou (.inl (t 3, 1, .inr (.inl g)))) x L ∧ tu τ ou (14, 0) ou = (14, 0) ∧ nl L (hu h ou (.inl (t 3, 1, .inr (.inl g)))) + spz (hu h ou (.inl (t 3, 1, .inr (.inl g)))) x ≤ nl L h + spz h x := by
  obtain ⟨hT, a2, a3, a4, a5, a6⟩ := hX
  have z : (τ ou).1 = 0 := TI_tag0 hT hn
  have xo : x ≠ ou := fun q => by rw [← q, a2] at z; cases z
  have T1 : TI τ t n (hu h ou (.inl (t 3, 1, .inr (.inl g)))) := TI_new hT hn
  have bk : ∀ {b : Nat} {k : Nat × Nat}, k ≠ (14, 0) → tu τ ou (14, 0) b = k → τ b = k := fun {b} {k} hk h1 => by
    by_cases hb : b = ou
    · rw [hb, tu_s] at h1
      exact absurd h1.symm hk
    · rw [tu_n hb] at h1
      exact h1
  refine ⟨⟨TI_ext T1 (tu_x z) (fun r hr => ?_) (fun b hb hb' => ?_), tx_r (tu_x z) a2, fun a b ha hb => a3 a b (bk (by decide) ha) (bk (by decide) hb), fun P hP => Tr_kf T1 (bk (by decide) hP) (kf_putU kf_rf z) (a4 P (bk (by decide) hP)), fun a ha => tx_r (tu_x z) (a5 a ha), fun a ha => a6 a (bk (by decide) ha)⟩, tu_s, ?_⟩
  · obtain ⟨r0, g9, r1, r2⟩ := hr
    rw [tu_n (fun q => by rw [q, hu_s] at r2; simp at r2)]
    exact r0
  · by_cases hba : b = ou
    · subst hba
      exact ⟨_, hu_s _ _ _, by rw [tu_s]; exact ⟨g, rfl⟩⟩
    · rw [tu_n hba] at hb'
      exact absurd hb hb'
  · have h1 := nl_mono (h := h) a5 (nlp_put2 (a := ou) (e := .inl (t 3, 1, .inr (.inl g))) nlp_rf (fun q => by rw [q] at z; cases z))
    rw [spz_put2 rfl xo]
    omega
section HMX
variable {p : Program} {l : Launch} {e : Env} {R : Room} {s : State} {m : MethodId} {args : Array Value} {below : List Frame} {meth : Method} {c : Code} {H : Heap} {locs : List Loc} {cells slots : Nat} {Q : State → Prop}
variable {pc : Nat} {ls : Array Slot} {rest st0 : List Value} {a : Array Value} {mc ms : Nat} {D : va_G} {cl : List vw_C} {G : hG} {P1 : Nat → Prop}
theorem hm_callXi {post : Int32 → hM → Prop} (hr : va_Run p l e R s m args below meth c H locs cells slots mc ms (F0 m pc ls st0) rest (hQi D cl G post a) G.P) (hLo : hLc P1 locs) (hp : ∀ q, G.P q → P1 q)
    (kk : ∀ (r : Int32) (h' : hM) (H1 : Heap) (locs1 : List Loc), post r h' → hm D cl G h' H1 → H.size ≤ H1.size → hLc P1 locs1 → W p l e R s m args below meth c H1 locs1 (cells + mc) (slots + ms) Q (F0 m (pc + 3) ls (.int r :: rest))) : W p l e R s m args below meth c H locs cells slots Q (F0 m pc ls st0) := by
  intro T hT X
  obtain ⟨v, st₀, t, T', L, h0, X', hL, e1, e2, ⟨r, h', hv, hp9, hh, hz⟩, st⟩ := hr T hT X
  cases hv
  rw [h0] at hz
  obtain ⟨t2, a1, b1⟩ := kk r h' T'.heap (locs ++ L) hp9 (by rw [e1]; exact hh) (by rw [e1]; exact hz) (hLc_app hLo (fun q hq => hp _ (hL q hq))) T' rfl X'
  exact ⟨t2, st t2 a1, b1⟩
theorem hm_callXl {post : Int64 → hM → Prop} (hr : va_Run p l e R s m args below meth c H locs cells slots mc ms (F0 m pc ls st0) rest (hQl D cl G post a) G.P) (hLo : hLc P1 locs) (hp : ∀ q, G.P q → P1 q)
    (kk : ∀ (r : Int64) (h' : hM) (H1 : Heap) (locs1 : List Loc), post r h' → hm D cl G h' H1 → H.size ≤ H1.size → hLc P1 locs1 → W p l e R s m args below meth c H1 locs1 (cells + mc) (slots + ms) Q (F0 m (pc + 3) ls (.long r :: rest))) : W p l e R s m args below meth c H locs cells slots Q (F0 m pc ls st0) := by
  intro T hT X
  obtain ⟨v, st₀, t, T', L, h0, X', hL, e1, e2, ⟨r, h', hv, hp9, hh, hz⟩, st⟩ := hr T hT X
  cases hv
  rw [h0] at hz
  obtain ⟨t2, a1, b1⟩ := kk r h' T'.heap (locs ++ L) hp9 (by rw [e1]; exact hh) (by rw [e1]; exact hz) (hLc_app hLo (fun q hq => hp _ (hL q hq))) T' rfl X'
  exact ⟨t2, st t2 a1, b1⟩
theorem hm_callXv {post : hM → Prop} (hr : va_Run p l e R s m args below meth c H locs cells slots mc ms (F0 m pc ls st0) rest (hQv D cl G post a) G.P) (hLo : hLc P1 locs) (hp : ∀ q, G.P q → P1 q)
    (kk : ∀ (h' : hM) (H1 : Heap) (locs1 : List Loc), post h' → hm D cl G h' H1 → H.size ≤ H1.size → hLc P1 locs1 → W p l e R s m args below meth c H1 locs1 (cells + mc) (slots + ms) Q (F0 m (pc + 3) ls rest)) : W p l e R s m args below meth c H locs cells slots Q (F0 m pc ls st0) := by
  intro T hT X
  obtain ⟨v, st₀, t, T', L, h0, X', hL, e1, e2, ⟨h', hv, hp9, hh, hz⟩, st⟩ := hr T hT X
  cases hv
  rw [h0] at hz
  obtain ⟨t2, a1, b1⟩ := kk h' T'.heap (locs ++ L) hp9 (by rw [e1]; exact hh) (by rw [e1]; exact hz) (hLc_app hLo (fun q hq => hp _ (hL q hq))) T' rfl X'
  exact ⟨t2, st t2 a1, b1⟩
theorem hm_callEi {post : Nat → Nat → Int32 → hM → Prop} (hr : va_RunD p l e R s m args below meth c H locs cells slots (F0 m pc ls st0) rest (fun k n => hQi D cl G (post k n) a) G.P) (hLo : hLc P1 locs) (hp : ∀ q, G.P q → P1 q)
    (kk : ∀ (r : Int32) (h' : hM) (H1 : Heap) (locs1 : List Loc) (k n : Nat), post k n r h' → hm D cl G h' H1 → H.size ≤ H1.size → hLc P1 locs1 → W p l e R s m args below meth c H1 locs1 (cells + k) (slots + n) Q (F0 m (pc + 3) ls (.int r :: rest))) : W p l e R s m args below meth c H locs cells slots Q (F0 m pc ls st0) := by
  intro T hT X
  obtain ⟨v, st₀, t, T', L, k, n, h0, X', hL, e1, e2, ⟨r, h', hv, hp9, hh, hz⟩, st⟩ := hr T hT X
  cases hv
  rw [h0] at hz
  obtain ⟨t2, a1, b1⟩ := kk r h' T'.heap (locs ++ L) k n hp9 (by rw [e1]; exact hh) (by rw [e1]; exact hz) (hLc_app hLo (fun q hq => hp _ (hL q hq))) T' rfl X'
  exact ⟨t2, st t2 a1, b1⟩
/-- a call of a static method that has handlers -/
theorem hm_runSW {y : MethodName} {bytes cc : ByteArray} {maxL nL n index : Nat} {ret : Option FieldType} {hh : List (Nat × Nat × Nat × Nat)} {rm : Room} {Pc : Array Value → State → Prop} {Qc : Array Value → State → Outcome → State → Prop} {free : Addr → Prop} {own : String} {As : List Value} {g : JFrame}
    (S : CallFix p m c cc nL s args lw_g own) (hM : Met l y (Cond.codeWith y bytes maxL ret hh :: lw_g) rm Pc Qc mc ms free) (hcw : Cond.codeWith y bytes maxL ret hh ∈ lw_g) (hlk : Cond.methodLink own index y ∈ lw_g) (hst : Cond.static y ∈ lw_g) (hin : Cond.initialized y.cls ∈ lw_g) (hrc : rm.cells = mc) (hrs : rm.slots = ms)
    (hd : y.cls ≠ "java/lang/invoke/MethodHandle" ∧ y.cls ≠ "java/lang/invoke/VarHandle" ∧ (parseMethodDescriptor y.desc).map (fun d => d.parameters.length) = some n) (hR : rm.frames + 1 ≤ R.frames ∧ 8 + (maxL + 11) + rm.locals ≤ R.locals) (hp : PreS s H Pc As)
    (hg : g.method = m) (hn : As.length = n) (hsize : g.locals.size = nL) (hstack : g.stack = As.reverse ++ rest) (hW : 2 * g.monitorRoom + (rest.map fun v => v.category).sum ≤ 8) (hdg : decode cc g.pc = .ok (.invokestatic index, 3)) (hf : cells + mc ≤ R.cells ∧ slots + ms ≤ R.slots) :
    va_Run p l e R s m args below meth c H locs cells slots mc ms g rest (Qc As.toArray) free := by
  obtain ⟨hx, hb, hml, ho, hts⟩ := S
  have hK : Back l R p e below s args y 3 8 (PreOf R mc ms Pc) (PostOf Qc mc ms free) := va_backW (hh := hh) (bytes := bytes) (maxL := maxL) (ret := ret) hM hp.1 hrc hrs hR.1 hR.2 (pay_in hts (lw_good hcw)) List.mem_cons_self (fun a' U hW => word_at hW (Or.inl (by first | rfl | simp [Cond.onTables, Cond.keeps, Cond.steady])) (hts _ hin))
  obtain ⟨mk, methM, cM, hnamed, hmethM, -, -, -, -, -, -, hsigM⟩ := Cond.codeWith_spec (hts _ hcw)
  have hstatic : methM.isStatic = true := Cond.static_spec hnamed hmethM (hts _ hst)
  obtain ⟨kP, hkP, -⟩ := className_of_methodNamed hnamed
  have hinitP : kP.init = .initialized := Cond.initialized_spec (findClass_of_methodNamed hnamed) hkP (hts _ hin)
  have hlen : n = methM.sig.parameters.length := by
    have h2 := hd.2.2
    rw [hsigM] at h2
    exact (Option.some.inj h2).symm
  intro T hT X
  obtain ⟨vm₁, X₁, hstep₁⟩ := X.invokestatic hx ho (hts _ hlk) hnamed hmethM hstatic hkP hinitP ⟨hd.1, hd.2.1⟩ (g := g) hg (argsL := As) (rest := rest) (hn.trans hlen) hstack (by rw [hb]; exact hdg)
  obtain ⟨v, ⟨U', l2, c2, s2⟩, X', ⟨g', mk', t, L, e1, e2, hq, h1, hL, h2, h3⟩, hsteps⟩ := hK m meth c ⟨T.setVm vm₁, locs, cells, slots⟩ { g with stack := rest } (.invokestatic index) mk As.toArray X₁ hg (hsize.trans hml.symm) (by rw [hb]; exact hdg) hW (X₁.named hnamed) ⟨hf.1, hf.2, hp.2 (T.setVm vm₁) hT X₁.warmed⟩
  dsimp only [Pt.U, Pt.locs, Pt.cells, Pt.slots] at X' e1 e2 h1 h2 h3 hsteps
  subst h1; subst h2; subst h3
  exact ⟨v, (T.setVm vm₁).calling g' mk' As.toArray, t, U', L, hT, X', hL, e1, e2, hq, fun target h => hstep₁ _ fun acts => by rw [doInvoke_state]; exact hsteps.trans h⟩
end HMX
/-- the start's tables, and the script in the old heap -/
def kX (D : va_G) (t : Nat → ClassId) (G : hG) (ak av : Nat → Nat) (b L : Nat) (xs : Nat → Int32) (U : State) : Prop := kE D t G ak av U ∧ va_X b L xs U G.H ∧ b < G.H.size ∧ ¬ G.P b
theorem kX_ok {D : va_G} {t : Nat → ClassId} {G : hG} {ak av : Nat → Nat} {b L : Nat} {xs : Nat → Int32} : hKok (kX D t G ak av b L xs) :=
  ⟨fun U g mk a k => ⟨kE_ok.1 U g mk a k.1, va_X.moved (u := U) (U := U.calling g mk a) (Vm.Alike.refl U.vm) k.2.1, k.2.2⟩, fun s U hW k => ⟨kE_ok.2 s U hW k.1, va_X.moved hW.alike k.2.1, k.2.2⟩⟩
def cel (L : Nat) (xs : Nat → Int32) : Int32 := if 0 < L then xs 0 else 0
/-- two answers that say the same -/
theorem eq9 {r q a b : Int32} {P Q : Prop} (h1 : (r = a ∧ P) ∨ (r = b ∧ Q)) (h2 : (q = a ∧ P) ∨ (q = b ∧ Q)) (hPQ : P → ¬ Q) : r = q := by
  rcases h1 with ⟨rfl, p1⟩ | ⟨rfl, q1⟩
  · rcases h2 with ⟨rfl, -⟩ | ⟨-, q2⟩
    · rfl
    · exact absurd q2 (hPQ p1)
  · rcases h2 with ⟨-, p2⟩ | ⟨rfl, -⟩
    · exact absurd q1 (hPQ p2)
    · rfl
theorem sw9 (v : Int32) : ∃ k, k < 32 ∧ v &&& 31 = nI k := by
  have h1 : (v &&& 31).toBitVec = v.toBitVec &&& 31#32 := rfl
  have h2 : (v &&& 31).toBitVec.toNat < 32 := by
    rw [h1, BitVec.toNat_and]
    exact Nat.lt_of_le_of_lt Nat.and_le_right (by decide)
  refine ⟨(v &&& 31).toBitVec.toNat, h2, ?_⟩
  apply Int32.toBitVec_inj.mp
  show _ = BitVec.ofNat 32 _
  rw [BitVec.ofNat_toNat]
  simp
