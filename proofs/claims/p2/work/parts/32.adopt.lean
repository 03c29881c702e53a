
theorem rdN_knp {τ : tM} {f c : Nat} {h h' : hM} {sl : Nat → Option Nat} (hn : nodA τ f sl) (hc : c ≤ 30) (hR : rdN h sl c) (hk : knp τ f h h') : rdN h' sl c := rdN_same hR (fun a ⟨i, hi, hs⟩ => by
  obtain ⟨a', e1, e2⟩ := hn i (by omega)
  obtain rfl : a' = a := Option.some.inj (e1.symm.trans hs)
  exact hk a' e2)
/-- the parent that adopt finds: the node of the place that the read one's parent has -/
theorem adopt_par {t : Nat → ClassId} {h3 : hM} {P s o i a8 : Nat} {sl slr : Nat → Option Nat} {cr x : Nat} {r cc nn : Int32} {y8 : Value} {r2 : Option Nat} (hi1 : 1 ≤ i) (hi : i < cr) (hcr : cr ≤ 30) (hrr : rdN h3 slr cr) (hx : slr i = some x) (hpn : pnP h3 x r) (hN : Nds t h3 P s o cc nn sl) (hcc : cc.toInt = i + 1) (hrd : rdN h3 sl i) (ha8 : sl i = some a8) (hno : nod h3 a8 = some (.int (nI i), y8)) (h1 : ∀ a, r2 = some a → ndl t h3 P a r) (h2 : r2 = none → ndn t h3 P r) : ∃ j q, r2 = some q ∧ j < i ∧ sl j = some q := by
  obtain ⟨x', pv, e1, e2, e3⟩ := hrr i hi
  obtain rfl : x' = x := Option.some.inj (e1.symm.trans hx)
  rcases e3 with ⟨z, -⟩ | ⟨j, b, hj, hb, hpv⟩
  · omega
  obtain ⟨y, hy⟩ := hpn b (by simp [prt, e2, hpv])
  obtain ⟨b', pb, f1, f2, -⟩ := hrr j (by omega)
  obtain rfl : b' = b := Option.some.inj (f1.symm.trans hb)
  rw [f2] at hy
  simp only [Option.some.injEq, Prod.mk.injEq, Value.int.injEq] at hy
  obtain ⟨c', pc, g1, g2, -⟩ := hrd j hj
  cases r2 with
  | none =>
    exact absurd (by rw [g2, hy.1]) (h2 rfl _ _ _ _ _ hN j c' pc (by omega) g1)
  | some q =>
    obtain ⟨s', o', c2, n2, sl', k, yy, q1, q2, q3, q4⟩ := h1 q rfl
    obtain ⟨rfl, rfl, rfl, rfl, rfl⟩ := Nds_eq q1 hN
    refine ⟨j, q, rfl, hj, ?_⟩
    rw [← hy.1] at q4
    by_cases hk : k = i
    · subst hk
      obtain rfl : q = a8 := Option.some.inj (q3.symm.trans ha8)
      rw [hno] at q4
      simp only [Option.some.injEq, Prod.mk.injEq, Value.int.injEq] at q4
      have e5 := nI_toInt (n := k) (by omega)
      have e6 := nI_toInt (n := j) (by omega)
      rw [q4.1] at e5
      omega
    · have := rdN_no hrd (by omega) (by omega : k < i) (by omega) q3 q4
      subst this
      exact q3
