
/-- whether v lies between a and b -/
def inC (v a b : Int32) : Int32 := if v < a then 0 else if b < v then 0 else 1
theorem inC0 {v b : Int32} (h : v < 0 ∨ b < v) : inC v 0 b = 0 := by
  unfold inC
  by_cases h1 : v < 0
  · rw [if_pos h1]
  · rw [if_neg h1, if_pos (h.resolve_left h1)]
theorem inC1 {v b : Int32} (h1 : ¬ v < 0) (h2 : ¬ b < v) : inC v 0 b = 1 := by
  unfold inC
  rw [if_neg h1, if_neg h2]
theorem nI_mul9 (a b : Nat) : nI a * nI b = nI (a * b) := (Int32.ofNat_mul a b).symm
theorem nI_sub1 {n : Nat} (h : 1 ≤ n) : nI n - 1 = nI (n - 1) := by
  obtain ⟨k, rfl⟩ : ∃ k, n = k + 1 := ⟨n - 1, by omega⟩
  rw [nI_pred]
  rfl
/-- the sectors of a medium: in it, or outside -/
theorem in9 {sx : Int32} {n : Nat} (hn : n ≤ 200) (h1 : 1 ≤ n) : (inC sx 0 (nI n - 1) = 1 ∧ ∃ j, j < n ∧ sx = nI j) ∨ (inC sx 0 (nI n - 1) = 0 ∧ (sx < 0 ∨ nI n ≤ sx)) := by
  obtain ⟨k, rfl⟩ : ∃ k, n = k + 1 := ⟨n - 1, by omega⟩
  rw [nI_pred k]
  by_cases h0 : sx < 0
  · exact Or.inr ⟨inC0 (Or.inl h0), Or.inl h0⟩
  · obtain ⟨q, hq, rfl⟩ := nI_of h0
    by_cases h2 : q < k + 1
    · refine Or.inl ⟨inC1 h0 (fun z => ?_), q, h2, rfl⟩
      have := (nI_ltI (by omega) (by omega)).mp z
      omega
    · refine Or.inr ⟨inC0 (Or.inr ((nI_ltI (by omega) (by omega)).mpr (by omega))), Or.inr ?_⟩
      exact Int32.not_lt.mp (fun z => h2 ((nI_ltI (by omega) (by omega)).mp z))
theorem cntI (sz sd : Int32) : cntC sz sd = if inC sz 0 6000 = 0 then 0 else if inC sd 0 255 = 0 then 0 else 1 := by
  unfold cntC inC
  by_cases h1 : sz < 0 <;> by_cases h2 : 6000 < sz <;> by_cases h3 : sd < 0 <;> by_cases h4 : 255 < sd <;> simp [h1, h2, h3, h4]
theorem z9 {k : Int32} (h0 : ¬ k < 0) (h1 : ¬ 1 ≤ k) : k = 0 := by
  obtain ⟨q, hq, rfl⟩ := nI_of h0
  have h2 : q < 1 := (nI_ltI hq (by decide)).mp (Int32.not_le.mp h1)
  obtain rfl : q = 0 := by omega
  rfl
theorem n9 {k : Int32} (h0 : k < 0) : ¬ k = 0 := fun q => by
  rw [q] at h0
  exact absurd h0 (by decide)
theorem o9 {k : Int32} (h0 : 1 ≤ k) : ¬ k = 0 := fun q => by
  rw [q] at h0
  exact absurd h0 (by decide)
theorem td_0 : (7 : Int32) = nI 8 - 1 := by decide
theorem td_neg : ∀ k, k < 9 → ((nI k - 1 < 0) ↔ k = 0) := by decide
theorem td_dec : ∀ k, k < 8 → nI (k + 1) - 1 + Int32.ofInt (-1) = nI k - 1 := by decide
theorem td_mul : ∀ k, k < 8 → (8 : Int32) * (nI (k + 1) - 1) = nI (8 * (k + 1)) - 8 := by decide
theorem td_b (w : Int64) {k : Nat} (hk : k < 8) : ((w.toUInt64 >>> ((8 * (nI (k + 1) - 1)).toInt64.toUInt64 &&& Int64.toUInt64 63)).toInt64 &&& 255).toInt32 = tb w k := by
  rw [td_mul k hk, Int64.toInt32_and]
  rfl
/-- what a reference holds of its fields but for thrown -/
def ThM (h : hM) (m n : Nat) (th : Int32) : Prop := ∃ (aBy aSt aDe aPa aIt aId aPr aNa aSi aSe aIw aEx aOl aPl aTa aAt aLo aS1 aS2 aS3 aS4 aS5 aS6 aO1 aO2 aO3 aO4 aO5 : Nat), h m = some (.inr (9, [.int th, .int (nI n), .int 0, .ref aBy, .ref aSt, .ref aDe, .int 0, .int (-1), .int 0, .ref aPa, .int 1, .ref aIt, .ref aId, .ref aPr, .ref aNa, .ref aSi, .ref aSe, .ref aIw, .ref aEx, .ref aOl, .int 0, .ref aPl, .int 0, .int 0, .ref aTa, .ref aAt, .ref aLo, .int 0, .int 0, .ref aS1, .ref aS2, .ref aS3, .ref aS4, .ref aS5, .ref aS6, .int 0, .ref aO1, .ref aO2, .ref aO3, .ref aO4, .ref aO5]))

theorem by_0 {a : Int32} {n : Nat} (hn : n ≤ 200) (h1 : 40 ≤ n) (h : inC a 0 (2048 * nI n - 1) = 0) : bytV n a = -1 := by
  have e : 2048 * nI n - 1 = nI (2048 * n - 1) := by
    rw [show (2048 : Int32) = nI 2048 from rfl, nI_mul9]
    exact nI_sub1 (by omega)
  rw [e] at h
  unfold bytV
  by_cases h0 : a < 0
  · rw [if_pos h0]
  · rw [if_neg h0]
    obtain ⟨q, hq, rfl⟩ := nI_of h0
    have e2 : nI q / 2048 = nI (q / 2048) := pk_div hq (by decide) (by decide)
    rw [e2]
    by_cases h2 : nI (2048 * n - 1) < nI q
    · have h3 := (nI_ltI (by omega) hq).mp h2
      rw [if_neg (fun z => by have := (nI_ltI (by omega) (by omega)).mp z; omega)]
    · rw [inC1 h0 h2] at h
      exact absurd h (by decide)
theorem by_1 {a : Int32} {n : Nat} (hn : n ≤ 200) (h1 : 40 ≤ n) (h : ¬ inC a 0 (2048 * nI n - 1) = 0) : bytV n a = 0 ∧ ∃ q, q < 2048 * n ∧ a = nI q := by
  have e : 2048 * nI n - 1 = nI (2048 * n - 1) := by
    rw [show (2048 : Int32) = nI 2048 from rfl, nI_mul9]
    exact nI_sub1 (by omega)
  rw [e] at h
  by_cases h0 : a < 0
  · exact absurd (inC0 (Or.inl h0)) h
  · obtain ⟨q, hq, rfl⟩ := nI_of h0
    by_cases h2 : nI (2048 * n - 1) < nI q
    · exact absurd (inC0 (Or.inr h2)) h
    · have h3 : q < 2048 * n := by
        apply Nat.lt_of_not_le
        intro z
        exact h2 ((nI_ltI (by omega) hq).mpr (by omega))
      have e2 : nI q / 2048 = nI (q / 2048) := pk_div hq (by decide) (by decide)
      refine ⟨?_, q, h3, rfl⟩
      rw [bytV, if_neg h0, e2, if_pos ((nI_ltI (by omega) (by omega)).mpr (by omega))]

theorem inN (v : Int32) : inC v 0 (0 - 1) = 0 := by
  by_cases h : v < 0
  · exact inC0 (Or.inl h)
  · refine inC0 (Or.inr ?_)
    obtain ⟨q, hq, rfl⟩ := nI_of h
    exact Int32.lt_of_lt_of_le (show (0 - 1 : Int32) < 0 by decide) (Int32.not_lt.mp h)

/-- what tree answers of the root alone -/
def treeC (k9 w9 : Int32) : Int32 := if w9 = 0 then -1 else 0
def treeT (k9 w9 : Int32) : Int32 := if k9 = 0 then (if inC w9 0 4 = 0 then 1 else 0) else 1
