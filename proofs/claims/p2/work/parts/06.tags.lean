
/-- the literals are short -/
theorem sl_lt {i : Nat} (h : i < 3) : sLen.getD i 0 < 2 ^ 31 := by
  rcases (show i = 0 ∨ i = 1 ∨ i = 2 by omega) with rfl | rfl | rfl <;> decide
/-! MY OWN ROWS: tags. τ says of an address what lies there (a kind, a family); TI: each tagged cell is as its tag says. No place is followed: a write that keeps the cell's tag keeps all. -/
abbrev tM : Type := Nat → Nat × Nat
def zb (v : Int32) : Prop := v = 0 ∨ v = 1
theorem zb0 : zb 0 := Or.inl rfl
theorem zb1 : zb 1 := Or.inr rfl
theorem zb_n {v : Int32} (h : zb v) : narrow .boolean (.int v) = .int v := by
  rcases h with rfl | rfl <;> decide
theorem zb_f {v : Int32} (h : zb v) : fits .boolean (.int v) = true := by
  rcases h with rfl | rfl <;> decide
/-- the row of a sector's bytes: it has no tag -/
def isB (τ : tM) (t : Nat → ClassId) (h : hM) (q : Nat) : Prop := (τ q).1 = 0 ∧ ∃ g : Nat → Int32, sb_Fit g ∧ h q = some (.inl (t 0, 2048, .inl g))
def pgn (f : Nat) : Nat := if f = 0 then 2048 else 480
theorem pgn_lt (f : Nat) : pgn f < 2 ^ 31 := by
  unfold pgn
  split <;> decide
def nodA (τ : tM) (f : Nat) (g : Nat → Option Nat) : Prop := ∀ i, i < 30 → ∃ a, g i = some a ∧ τ a = (10, f)
def injA (g : Nat → Option Nat) : Prop := ∀ i j, i < 30 → j < 30 → g i = g j → i = j
def secA (τ : tM) (n : Nat) (g : Nat → Option Nat) : Prop := ∀ i, i < n → ∃ a, g i = some a ∧ τ a = (13, 0)
def zbF (g : Nat → Int32) : Prop := ∀ i, zb (g i)
/-- the sort and the length of each array of the reference -/
def arS : Nat → Nat
  | 0 => 0
  | 1 => 0
  | 2 => 1
  | 3 => 0
  | 4 => 1
  | 5 => 1
  | 6 => 2
  | 7 => 3
  | 8 => 2
  | 9 => 2
  | 10 => 1
  | 11 => 2
  | 12 => 2
  | 13 => 0
  | 14 => 2
  | 15 => 2
  | 16 => 2
  | 17 => 2
  | 18 => 1
  | 19 => 2
  | 20 => 2
  | 21 => 3
  | 22 => 2
  | 23 => 2
  | 24 => 1
  | 25 => 2
  | 26 => 2
  | 27 => 3
  | _ => 2
def arL : Nat → Nat
  | 0 => 819200
  | 1 => 400
  | 2 => 200
  | 3 => 2048
  | 4 => 700
  | 5 => 700
  | 6 => 700
  | 7 => 700
  | 8 => 700
  | 9 => 700
  | 10 => 700
  | 11 => 700
  | 12 => 700
  | 13 => 163840
  | 14 => 30
  | 15 => 700
  | 16 => 700
  | 17 => 31
  | 18 => 31
  | 19 => 31
  | 20 => 31
  | 21 => 31
  | 22 => 31
  | 23 => 31
  | 24 => 31
  | 25 => 31
  | 26 => 31
  | 27 => 31
  | _ => 0
def arOk (t : Nat → ClassId) (f : Nat) (e : va_E) : Prop := match arS f with
  | 0 => ∃ g : Nat → Int32, e = .inl (t 0, arL f, .inl g) ∧ sb_Fit g
  | 1 => ∃ g : Nat → Int32, e = .inl (t 1, arL f, .inl g) ∧ zbF g
  | 2 => ∃ g : Nat → Int32, e = .inl (t 2, arL f, .inl g)
  | _ => ∃ g : Nat → Int64, e = .inl (t 3, arL f, .inr (.inl g))
def okE (τ : tM) (t : Nat → ClassId) (n : Nat) (h : hM) : Nat × Nat → va_E → Prop
  | (1, _), e => ∃ (v0 : Nat) (v1 : Nat) (v2 : Nat) (v3 : Nat) (v4 : Option Nat) (v5 : Int32) (v6 : Int32) (v7 : Nat) (v8 : Nat), e = .inr (8, [.ref v0, .ref v1, .ref v2, .ref v3, va_rf v4, .int v5, .int v6, .ref v7, .ref v8]) ∧ (τ v0 = (2, 0)) ∧ (τ v1 = (6, 0)) ∧ (τ v2 = (7, 0)) ∧ (τ v3 = (11, 0)) ∧ (∀ q, v4 = some q → τ q = (11, 0)) ∧ (zb v6) ∧ (τ v7 = (7, 1)) ∧ (τ v8 = (7, 1))
  | (2, _), e => ∃ (v0 : Nat) (v1 : Nat), e = .inr (7, [.ref v0, .ref v1]) ∧ (τ v0 = (3, 0)) ∧ (τ v1 = (4, 0))
  | (3, _), e => ∃ (v0 : Int32) (v1 : Int32) (v2 : Int32), e = .inr (4, [.int v0, .int v1, .int v2]) ∧ (zb v1)
  | (4, f), e => ∃ (v0 : Nat), e = .inr (3, [.ref v0]) ∧ (τ v0 = (5, f))
  | (5, f), e => ∃ g : Nat → Int32, e = .inl (t 0, pgn f, .inl g) ∧ sb_Fit g
  | (6, _), e => ∃ (v0 : Nat) (v1 : Nat) (v2 : Option Nat) (v3 : Option Nat) (v4 : Int32), e = .inr (5, [.ref v0, .ref v1, va_rf v2, va_rf v3, .int v4]) ∧ (τ v0 = (4, 1)) ∧ (τ v1 = (10, 2)) ∧ (∀ q, v2 = some q → τ q = (11, 0)) ∧ (∀ q, v3 = some q → τ q = (7, 1))
  | (7, f), e => ∃ (v0 : Nat) (v1 : Nat) (v2 : Int32) (v3 : Int32), e = .inr (2, [.ref v0, .ref v1, .int v2, .int v3]) ∧ (τ v0 = (8, f)) ∧ (τ v1 = (9, f)) ∧ (0 ≤ v2.toInt ∧ v2.toInt ≤ 30)
  | (8, f), e => ∃ g : Nat → Option Nat, e = .inl (t 4, 30, .inr (.inr (.inr (.inr g)))) ∧ nodA τ f g ∧ injA g
  | (9, f), e => ∃ g : Nat → Option Nat, e = .inl (t 4, 30, .inr (.inr (.inr (.inr g)))) ∧ nodA τ f g
  | (10, f), e => ∃ (v0 : Int32) (v1 : Option Nat) (v2 : Int32) (v3 : Int64) (v4 : Int32) (v5 : Int32) (v6 : Int32) (v7 : Int32) (v8 : Int32) (v9 : Int32) (v10 : Int32), e = .inr (1, [.int v0, va_rf v1, .int v2, .long v3, .int v4, .int v5, .int v6, .int v7, .int v8, .int v9, .int v10]) ∧ (∀ q, v1 = some q → τ q = (10, f)) ∧ (zb v2) ∧ (0 ≤ v4.toInt ∧ v4.toInt ≤ 8) ∧ (zb v7)
  | (11, _), e => ∃ (v0 : Nat) (v1 : Int32), e = .inr (0, [.ref v0, .int v1]) ∧ (τ v0 = (12, 0))
  | (12, _), e => ∃ g : Nat → Option Nat, e = .inl (t 5, n, .inr (.inr (.inr (.inr g)))) ∧ secA τ n g
  | (13, _), e => ∃ (v0 : Int32) (v1 : Int32) (v2 : Option Nat), e = .inr (6, [.int v0, .int v1, va_rf v2]) ∧ (zb v1) ∧ (∀ q, v2 = some q → isB τ t h q)
  | (14, _), e => ∃ g : Nat → Int64, e = .inl (t 3, 1, .inr (.inl g))
  | (20, _), e => ∃ fs : List Value, e = .inr (9, fs)
  | (30, f), e => arOk t f e
  | _, _ => False
def TI (τ : tM) (t : Nat → ClassId) (n : Nat) (h : hM) : Prop := ∀ a, (τ a).1 ≠ 0 → ∃ e, h a = some e ∧ okE τ t n h (τ a) e
theorem okE_mono {τ : tM} {t : Nat → ClassId} {n : Nat} {h h' : hM} (hB : ∀ q, isB τ t h q → isB τ t h' q) {x : Nat × Nat} {e : va_E} (ho : okE τ t n h x e) : okE τ t n h' x e := by
  obtain ⟨k, f⟩ := x
  unfold okE at ho ⊢
  split at ho
  case h_13 => 
    obtain ⟨v0, v1, v2, he, h1, h2⟩ := ho
    exact ⟨v0, v1, v2, he, h1, fun q hq => hB q (h2 q hq)⟩
  all_goals exact ho
theorem isB_put {τ : tM} {t : Nat → ClassId} {h : hM} {a q : Nat} {e : va_E} (ha : (τ a).1 ≠ 0) (hB : isB τ t h q) : isB τ t (hu h a e) q := by
  obtain ⟨h0, g, h1, h2⟩ := hB
  exact ⟨h0, g, h1, by rw [hu_n (fun z => ha (by rw [← z]; exact h0))]; exact h2⟩
theorem TI_put {τ : tM} {t : Nat → ClassId} {n : Nat} {h : hM} {a k f : Nat} {e : va_E} (hT : TI τ t n h) (ha : τ a = (k, f)) (hk : k ≠ 0) (ho : okE τ t n h (k, f) e) : TI τ t n (hu h a e) := by
  have hk' : (τ a).1 ≠ 0 := by rw [ha]; exact hk
  intro b hb
  by_cases hba : b = a
  · subst hba
    exact ⟨e, hu_s _ _ _, okE_mono (fun q hq => isB_put hk' hq) (by rw [ha]; exact ho)⟩
  · obtain ⟨e', h1, h2⟩ := hT b hb
    exact ⟨e', by rw [hu_n hba]; exact h1, okE_mono (fun q hq => isB_put hk' hq) h2⟩
/-- a sector's row is written -/
theorem isB_putU {τ : tM} {t : Nat → ClassId} {h : hM} {a q : Nat} {g : Nat → Int32} (ha : (τ a).1 = 0) (hg : sb_Fit g) (hB : isB τ t h q) : isB τ t (hu h a (.inl (t 0, 2048, .inl g))) q := by
  by_cases hqa : q = a
  · subst hqa
    exact ⟨ha, g, hg, hu_s _ _ _⟩
  · obtain ⟨h0, g', h1, h2⟩ := hB
    exact ⟨h0, g', h1, by rw [hu_n hqa]; exact h2⟩
theorem TI_putU {τ : tM} {t : Nat → ClassId} {n : Nat} {h : hM} {a : Nat} {g : Nat → Int32} (hT : TI τ t n h) (ha : (τ a).1 = 0) (hg : sb_Fit g) : TI τ t n (hu h a (.inl (t 0, 2048, .inl g))) := by
  intro b hb
  obtain ⟨e', h1, h2⟩ := hT b hb
  exact ⟨e', by rw [hu_n (fun z => hb (by rw [z]; exact ha))]; exact h1, okE_mono (fun q hq => isB_putU ha hg hq) h2⟩
/-- a new cell has no tag -/
theorem TI_tag0 {τ : tM} {t : Nat → ClassId} {n : Nat} {h : hM} {a : Nat} (hT : TI τ t n h) (ha : h a = none) : (τ a).1 = 0 := by
  by_cases h0 : (τ a).1 = 0
  · exact h0
  · obtain ⟨e, h1, -⟩ := hT a h0
    rw [ha] at h1
    cases h1
theorem TI_new {τ : tM} {t : Nat → ClassId} {n : Nat} {h : hM} {a : Nat} {e : va_E} (hT : TI τ t n h) (ha : h a = none) : TI τ t n (hu h a e) := by
  intro b hb
  obtain ⟨e', h1, h2⟩ := hT b hb
  refine ⟨e', by rw [hu_n (fun z => by rw [z, ha] at h1; cases h1)]; exact h1, okE_mono (fun q hq => ?_) h2⟩
  obtain ⟨h3, g, h4, h5⟩ := hq
  exact ⟨h3, g, h4, by rw [hu_n (fun z => by rw [z, ha] at h5; cases h5)]; exact h5⟩
theorem TI_disc {τ : tM} {t : Nat → ClassId} {n f : Nat} {h : hM} {a : Nat} (hT : TI τ t n h) (ha : τ a = (1, f)) : ∃ (v0 : Nat) (v1 : Nat) (v2 : Nat) (v3 : Nat) (v4 : Option Nat) (v5 : Int32) (v6 : Int32) (v7 : Nat) (v8 : Nat), h a = some (.inr (8, [.ref v0, .ref v1, .ref v2, .ref v3, va_rf v4, .int v5, .int v6, .ref v7, .ref v8])) ∧ (τ v0 = (2, 0)) ∧ (τ v1 = (6, 0)) ∧ (τ v2 = (7, 0)) ∧ (τ v3 = (11, 0)) ∧ (∀ q, v4 = some q → τ q = (11, 0)) ∧ (zb v6) ∧ (τ v7 = (7, 1)) ∧ (τ v8 = (7, 1)) := by
  obtain ⟨e, h1, h2⟩ := hT a (by rw [ha]; exact Nat.succ_ne_zero _)
  rw [ha] at h2
  obtain ⟨v0, v1, v2, v3, v4, v5, v6, v7, v8, rfl, c0, c1, c2, c3, c4, c5, c6, c7⟩ := h2
  exact ⟨v0, v1, v2, v3, v4, v5, v6, v7, v8, h1, c0, c1, c2, c3, c4, c5, c6, c7⟩
theorem TI_wri {τ : tM} {t : Nat → ClassId} {n f : Nat} {h : hM} {a : Nat} (hT : TI τ t n h) (ha : τ a = (2, f)) : ∃ (v0 : Nat) (v1 : Nat), h a = some (.inr (7, [.ref v0, .ref v1])) ∧ (τ v0 = (3, 0)) ∧ (τ v1 = (4, 0)) := by
  obtain ⟨e, h1, h2⟩ := hT a (by rw [ha]; exact Nat.succ_ne_zero _)
  rw [ha] at h2
  obtain ⟨v0, v1, rfl, c0, c1⟩ := h2
  exact ⟨v0, v1, h1, c0, c1⟩
theorem TI_pow {τ : tM} {t : Nat → ClassId} {n f : Nat} {h : hM} {a : Nat} (hT : TI τ t n h) (ha : τ a = (3, f)) : ∃ (v0 : Int32) (v1 : Int32) (v2 : Int32), h a = some (.inr (4, [.int v0, .int v1, .int v2])) ∧ (zb v1) := by
  obtain ⟨e, h1, h2⟩ := hT a (by rw [ha]; exact Nat.succ_ne_zero _)
  rw [ha] at h2
  obtain ⟨v0, v1, v2, rfl, c0⟩ := h2
  exact ⟨v0, v1, v2, h1, c0⟩
theorem TI_page {τ : tM} {t : Nat → ClassId} {n f : Nat} {h : hM} {a : Nat} (hT : TI τ t n h) (ha : τ a = (4, f)) : ∃ (v0 : Nat), h a = some (.inr (3, [.ref v0])) ∧ (τ v0 = (5, f)) := by
  obtain ⟨e, h1, h2⟩ := hT a (by rw [ha]; exact Nat.succ_ne_zero _)
  rw [ha] at h2
  obtain ⟨v0, rfl, c0⟩ := h2
  exact ⟨v0, h1, c0⟩
theorem TI_byts {τ : tM} {t : Nat → ClassId} {n f : Nat} {h : hM} {a : Nat} (hT : TI τ t n h) (ha : τ a = (5, f)) : ∃ g : Nat → Int32, h a = some (.inl (t 0, pgn f, .inl g)) ∧ sb_Fit g := by
  obtain ⟨e, h1, h2⟩ := hT a (by rw [ha]; exact Nat.succ_ne_zero _)
  rw [ha] at h2
  obtain ⟨g, rfl, c0⟩ := h2
  exact ⟨g, h1, c0⟩
theorem TI_rdr {τ : tM} {t : Nat → ClassId} {n f : Nat} {h : hM} {a : Nat} (hT : TI τ t n h) (ha : τ a = (6, f)) : ∃ (v0 : Nat) (v1 : Nat) (v2 : Option Nat) (v3 : Option Nat) (v4 : Int32), h a = some (.inr (5, [.ref v0, .ref v1, va_rf v2, va_rf v3, .int v4])) ∧ (τ v0 = (4, 1)) ∧ (τ v1 = (10, 2)) ∧ (∀ q, v2 = some q → τ q = (11, 0)) ∧ (∀ q, v3 = some q → τ q = (7, 1)) := by
  obtain ⟨e, h1, h2⟩ := hT a (by rw [ha]; exact Nat.succ_ne_zero _)
  rw [ha] at h2
  obtain ⟨v0, v1, v2, v3, v4, rfl, c0, c1, c2, c3⟩ := h2
  exact ⟨v0, v1, v2, v3, v4, h1, c0, c1, c2, c3⟩
theorem TI_nds {τ : tM} {t : Nat → ClassId} {n f : Nat} {h : hM} {a : Nat} (hT : TI τ t n h) (ha : τ a = (7, f)) : ∃ (v0 : Nat) (v1 : Nat) (v2 : Int32) (v3 : Int32), h a = some (.inr (2, [.ref v0, .ref v1, .int v2, .int v3])) ∧ (τ v0 = (8, f)) ∧ (τ v1 = (9, f)) ∧ (0 ≤ v2.toInt ∧ v2.toInt ≤ 30) := by
  obtain ⟨e, h1, h2⟩ := hT a (by rw [ha]; exact Nat.succ_ne_zero _)
  rw [ha] at h2
  obtain ⟨v0, v1, v2, v3, rfl, c0, c1, c2⟩ := h2
  exact ⟨v0, v1, v2, v3, h1, c0, c1, c2⟩
theorem TI_slo {τ : tM} {t : Nat → ClassId} {n f : Nat} {h : hM} {a : Nat} (hT : TI τ t n h) (ha : τ a = (8, f)) : ∃ g : Nat → Option Nat, h a = some (.inl (t 4, 30, .inr (.inr (.inr (.inr g))))) ∧ nodA τ f g ∧ injA g := by
  obtain ⟨e, h1, h2⟩ := hT a (by rw [ha]; exact Nat.succ_ne_zero _)
  rw [ha] at h2
  obtain ⟨g, rfl, c0, c1⟩ := h2
  exact ⟨g, h1, c0, c1⟩
theorem TI_ord {τ : tM} {t : Nat → ClassId} {n f : Nat} {h : hM} {a : Nat} (hT : TI τ t n h) (ha : τ a = (9, f)) : ∃ g : Nat → Option Nat, h a = some (.inl (t 4, 30, .inr (.inr (.inr (.inr g))))) ∧ nodA τ f g := by
  obtain ⟨e, h1, h2⟩ := hT a (by rw [ha]; exact Nat.succ_ne_zero _)
  rw [ha] at h2
  obtain ⟨g, rfl, c0⟩ := h2
  exact ⟨g, h1, c0⟩
theorem TI_node {τ : tM} {t : Nat → ClassId} {n f : Nat} {h : hM} {a : Nat} (hT : TI τ t n h) (ha : τ a = (10, f)) : ∃ (v0 : Int32) (v1 : Option Nat) (v2 : Int32) (v3 : Int64) (v4 : Int32) (v5 : Int32) (v6 : Int32) (v7 : Int32) (v8 : Int32) (v9 : Int32) (v10 : Int32), h a = some (.inr (1, [.int v0, va_rf v1, .int v2, .long v3, .int v4, .int v5, .int v6, .int v7, .int v8, .int v9, .int v10])) ∧ (∀ q, v1 = some q → τ q = (10, f)) ∧ (zb v2) ∧ (0 ≤ v4.toInt ∧ v4.toInt ≤ 8) ∧ (zb v7) := by
  obtain ⟨e, h1, h2⟩ := hT a (by rw [ha]; exact Nat.succ_ne_zero _)
  rw [ha] at h2
  obtain ⟨v0, v1, v2, v3, v4, v5, v6, v7, v8, v9, v10, rfl, c0, c1, c2, c3⟩ := h2
  exact ⟨v0, v1, v2, v3, v4, v5, v6, v7, v8, v9, v10, h1, c0, c1, c2, c3⟩
theorem TI_med {τ : tM} {t : Nat → ClassId} {n f : Nat} {h : hM} {a : Nat} (hT : TI τ t n h) (ha : τ a = (11, f)) : ∃ (v0 : Nat) (v1 : Int32), h a = some (.inr (0, [.ref v0, .int v1])) ∧ (τ v0 = (12, 0)) := by
  obtain ⟨e, h1, h2⟩ := hT a (by rw [ha]; exact Nat.succ_ne_zero _)
  rw [ha] at h2
  obtain ⟨v0, v1, rfl, c0⟩ := h2
  exact ⟨v0, v1, h1, c0⟩
theorem TI_secs {τ : tM} {t : Nat → ClassId} {n f : Nat} {h : hM} {a : Nat} (hT : TI τ t n h) (ha : τ a = (12, f)) : ∃ g : Nat → Option Nat, h a = some (.inl (t 5, n, .inr (.inr (.inr (.inr g))))) ∧ secA τ n g := by
  obtain ⟨e, h1, h2⟩ := hT a (by rw [ha]; exact Nat.succ_ne_zero _)
  rw [ha] at h2
  obtain ⟨g, rfl, c0⟩ := h2
  exact ⟨g, h1, c0⟩
theorem TI_sec {τ : tM} {t : Nat → ClassId} {n f : Nat} {h : hM} {a : Nat} (hT : TI τ t n h) (ha : τ a = (13, f)) : ∃ (v0 : Int32) (v1 : Int32) (v2 : Option Nat), h a = some (.inr (6, [.int v0, .int v1, va_rf v2])) ∧ (zb v1) ∧ (∀ q, v2 = some q → isB τ t h q) := by
  obtain ⟨e, h1, h2⟩ := hT a (by rw [ha]; exact Nat.succ_ne_zero _)
  rw [ha] at h2
  obtain ⟨v0, v1, v2, rfl, c0, c1⟩ := h2
  exact ⟨v0, v1, v2, h1, c0, c1⟩
theorem rfi {v v' : Option Nat} (h : va_rf v = va_rf v') : v = v' := by
  cases v <;> cases v' <;> simp_all [va_rf]
theorem TJ_disc {τ : tM} {t : Nat → ClassId} {n f : Nat} {h : hM} {a : Nat} {v0 : Nat} {v1 : Nat} {v2 : Nat} {v3 : Nat} {v4 : Option Nat} {v5 : Int32} {v6 : Int32} {v7 : Nat} {v8 : Nat} (hT : TI τ t n h) (ha : τ a = (1, f)) (hF : h a = some (.inr (8, [.ref v0, .ref v1, .ref v2, .ref v3, va_rf v4, .int v5, .int v6, .ref v7, .ref v8]))) : (τ v0 = (2, 0)) ∧ (τ v1 = (6, 0)) ∧ (τ v2 = (7, 0)) ∧ (τ v3 = (11, 0)) ∧ (∀ q, v4 = some q → τ q = (11, 0)) ∧ (zb v6) ∧ (τ v7 = (7, 1)) ∧ (τ v8 = (7, 1)) := by
  obtain ⟨u0, u1, u2, u3, u4, u5, u6, u7, u8, h1, c0, c1, c2, c3, c4, c5, c6, c7⟩ := TI_disc hT ha
  rw [hF] at h1
  simp only [Option.some.injEq, Sum.inr.injEq, Prod.mk.injEq, List.cons.injEq, Value.ref.injEq, Value.int.injEq, Value.long.injEq, true_and, and_true] at h1
  obtain ⟨e0, e1, e2, e3, e4, e5, e6, e7, e8⟩ := h1
  have e4 := rfi e4
  subst e0 e1 e2 e3 e4 e5 e6 e7 e8
  exact ⟨c0, c1, c2, c3, c4, c5, c6, c7⟩
theorem TJ_wri {τ : tM} {t : Nat → ClassId} {n f : Nat} {h : hM} {a : Nat} {v0 : Nat} {v1 : Nat} (hT : TI τ t n h) (ha : τ a = (2, f)) (hF : h a = some (.inr (7, [.ref v0, .ref v1]))) : (τ v0 = (3, 0)) ∧ (τ v1 = (4, 0)) := by
  obtain ⟨u0, u1, h1, c0, c1⟩ := TI_wri hT ha
  rw [hF] at h1
  simp only [Option.some.injEq, Sum.inr.injEq, Prod.mk.injEq, List.cons.injEq, Value.ref.injEq, Value.int.injEq, Value.long.injEq, true_and, and_true] at h1
  obtain ⟨e0, e1⟩ := h1
  subst e0 e1
  exact ⟨c0, c1⟩
theorem TJ_pow {τ : tM} {t : Nat → ClassId} {n f : Nat} {h : hM} {a : Nat} {v0 : Int32} {v1 : Int32} {v2 : Int32} (hT : TI τ t n h) (ha : τ a = (3, f)) (hF : h a = some (.inr (4, [.int v0, .int v1, .int v2]))) : (zb v1) := by
  obtain ⟨u0, u1, u2, h1, c0⟩ := TI_pow hT ha
  rw [hF] at h1
  simp only [Option.some.injEq, Sum.inr.injEq, Prod.mk.injEq, List.cons.injEq, Value.ref.injEq, Value.int.injEq, Value.long.injEq, true_and, and_true] at h1
  obtain ⟨e0, e1, e2⟩ := h1
  subst e0 e1 e2
  exact c0
theorem TJ_page {τ : tM} {t : Nat → ClassId} {n f : Nat} {h : hM} {a : Nat} {v0 : Nat} (hT : TI τ t n h) (ha : τ a = (4, f)) (hF : h a = some (.inr (3, [.ref v0]))) : (τ v0 = (5, f)) := by
  obtain ⟨u0, h1, c0⟩ := TI_page hT ha
  rw [hF] at h1
  cases h1
  exact c0
theorem TJ_byts {τ : tM} {t : Nat → ClassId} {n f : Nat} {h : hM} {a : Nat} {g : Nat → Int32} (hT : TI τ t n h) (ha : τ a = (5, f)) (hF : h a = some (.inl (t 0, pgn f, .inl g))) : sb_Fit g := by
  obtain ⟨g9, h1, c0⟩ := TI_byts hT ha
  rw [hF] at h1
  cases h1
  exact c0
theorem TJ_rdr {τ : tM} {t : Nat → ClassId} {n f : Nat} {h : hM} {a : Nat} {v0 : Nat} {v1 : Nat} {v2 : Option Nat} {v3 : Option Nat} {v4 : Int32} (hT : TI τ t n h) (ha : τ a = (6, f)) (hF : h a = some (.inr (5, [.ref v0, .ref v1, va_rf v2, va_rf v3, .int v4]))) : (τ v0 = (4, 1)) ∧ (τ v1 = (10, 2)) ∧ (∀ q, v2 = some q → τ q = (11, 0)) ∧ (∀ q, v3 = some q → τ q = (7, 1)) := by
  obtain ⟨u0, u1, u2, u3, u4, h1, c0, c1, c2, c3⟩ := TI_rdr hT ha
  rw [hF] at h1
  simp only [Option.some.injEq, Sum.inr.injEq, Prod.mk.injEq, List.cons.injEq, Value.ref.injEq, Value.int.injEq, Value.long.injEq, true_and, and_true] at h1
  obtain ⟨e0, e1, e2, e3, e4⟩ := h1
  have e2 := rfi e2
  have e3 := rfi e3
  subst e0 e1 e2 e3 e4
  exact ⟨c0, c1, c2, c3⟩
theorem TJ_nds {τ : tM} {t : Nat → ClassId} {n f : Nat} {h : hM} {a : Nat} {v0 : Nat} {v1 : Nat} {v2 : Int32} {v3 : Int32} (hT : TI τ t n h) (ha : τ a = (7, f)) (hF : h a = some (.inr (2, [.ref v0, .ref v1, .int v2, .int v3]))) : (τ v0 = (8, f)) ∧ (τ v1 = (9, f)) ∧ (0 ≤ v2.toInt ∧ v2.toInt ≤ 30) := by
  obtain ⟨u0, u1, u2, u3, h1, c0, c1, c2⟩ := TI_nds hT ha
  rw [hF] at h1
  simp only [Option.some.injEq, Sum.inr.injEq, Prod.mk.injEq, List.cons.injEq, Value.ref.injEq, Value.int.injEq, Value.long.injEq, true_and, and_true] at h1
  obtain ⟨e0, e1, e2, e3⟩ := h1
  subst e0 e1 e2 e3
  exact ⟨c0, c1, c2⟩
theorem TJ_slo {τ : tM} {t : Nat → ClassId} {n f : Nat} {h : hM} {a : Nat} {g : Nat → Option Nat} (hT : TI τ t n h) (ha : τ a = (8, f)) (hF : h a = some (.inl (t 4, 30, .inr (.inr (.inr (.inr g)))))) : nodA τ f g ∧ injA g := by
  obtain ⟨g9, h1, c0, c1⟩ := TI_slo hT ha
  rw [hF] at h1
  cases h1
  exact ⟨c0, c1⟩
theorem TJ_ord {τ : tM} {t : Nat → ClassId} {n f : Nat} {h : hM} {a : Nat} {g : Nat → Option Nat} (hT : TI τ t n h) (ha : τ a = (9, f)) (hF : h a = some (.inl (t 4, 30, .inr (.inr (.inr (.inr g)))))) : nodA τ f g := by
  obtain ⟨g9, h1, c0⟩ := TI_ord hT ha
  rw [hF] at h1
  cases h1
  exact c0
theorem TJ_node {τ : tM} {t : Nat → ClassId} {n f : Nat} {h : hM} {a : Nat} {v0 : Int32} {v1 : Option Nat} {v2 : Int32} {v3 : Int64} {v4 : Int32} {v5 : Int32} {v6 : Int32} {v7 : Int32} {v8 : Int32} {v9 : Int32} {v10 : Int32} (hT : TI τ t n h) (ha : τ a = (10, f)) (hF : h a = some (.inr (1, [.int v0, va_rf v1, .int v2, .long v3, .int v4, .int v5, .int v6, .int v7, .int v8, .int v9, .int v10]))) : (∀ q, v1 = some q → τ q = (10, f)) ∧ (zb v2) ∧ (0 ≤ v4.toInt ∧ v4.toInt ≤ 8) ∧ (zb v7) := by
  obtain ⟨u0, u1, u2, u3, u4, u5, u6, u7, u8, u9, u10, h1, c0, c1, c2, c3⟩ := TI_node hT ha
  rw [hF] at h1
  simp only [Option.some.injEq, Sum.inr.injEq, Prod.mk.injEq, List.cons.injEq, Value.ref.injEq, Value.int.injEq, Value.long.injEq, true_and, and_true] at h1
  obtain ⟨e0, e1, e2, e3, e4, e5, e6, e7, e8, e9, e10⟩ := h1
  have e1 := rfi e1
  subst e0 e1 e2 e3 e4 e5 e6 e7 e8 e9 e10
  exact ⟨c0, c1, c2, c3⟩
theorem TJ_med {τ : tM} {t : Nat → ClassId} {n f : Nat} {h : hM} {a : Nat} {v0 : Nat} {v1 : Int32} (hT : TI τ t n h) (ha : τ a = (11, f)) (hF : h a = some (.inr (0, [.ref v0, .int v1]))) : (τ v0 = (12, 0)) := by
  obtain ⟨u0, u1, h1, c0⟩ := TI_med hT ha
  rw [hF] at h1
  simp only [Option.some.injEq, Sum.inr.injEq, Prod.mk.injEq, List.cons.injEq, Value.ref.injEq, Value.int.injEq, Value.long.injEq, true_and, and_true] at h1
  obtain ⟨e0, e1⟩ := h1
  subst e0 e1
  exact c0
theorem TJ_secs {τ : tM} {t : Nat → ClassId} {n f : Nat} {h : hM} {a : Nat} {g : Nat → Option Nat} (hT : TI τ t n h) (ha : τ a = (12, f)) (hF : h a = some (.inl (t 5, n, .inr (.inr (.inr (.inr g)))))) : secA τ n g := by
  obtain ⟨g9, h1, c0⟩ := TI_secs hT ha
  rw [hF] at h1
  cases h1
  exact c0
theorem TJ_sec {τ : tM} {t : Nat → ClassId} {n f : Nat} {h : hM} {a : Nat} {v0 : Int32} {v1 : Int32} {v2 : Option Nat} (hT : TI τ t n h) (ha : τ a = (13, f)) (hF : h a = some (.inr (6, [.int v0, .int v1, va_rf v2]))) : (zb v1) ∧ (∀ q, v2 = some q → isB τ t h q) := by
  obtain ⟨u0, u1, u2, h1, c0, c1⟩ := TI_sec hT ha
  rw [hF] at h1
  simp only [Option.some.injEq, Sum.inr.injEq, Prod.mk.injEq, List.cons.injEq, Value.ref.injEq, Value.int.injEq, Value.long.injEq, true_and, and_true] at h1
  obtain ⟨e0, e1, e2⟩ := h1
  have e2 := rfi e2
  subst e0 e1 e2
  exact ⟨c0, c1⟩
theorem TI_arB {τ : tM} {t : Nat → ClassId} {n f : Nat} {h : hM} {a L : Nat} (hT : TI τ t n h) (ha : τ a = (30, f)) (hs : arS f = 0) (hl : arL f = L) : ∃ g : Nat → Int32, h a = some (.inl (t 0, L, .inl g)) ∧ sb_Fit g := by
  obtain ⟨e, h1, h2⟩ := hT a (by rw [ha]; exact Nat.succ_ne_zero _)
  rw [ha] at h2
  have h3 : arOk t f e := h2
  unfold arOk at h3
  rw [hs] at h3
  obtain ⟨g, rfl, h4⟩ := h3
  exact ⟨g, by rw [← hl]; exact h1, h4⟩
theorem TI_arZ {τ : tM} {t : Nat → ClassId} {n f : Nat} {h : hM} {a L : Nat} (hT : TI τ t n h) (ha : τ a = (30, f)) (hs : arS f = 1) (hl : arL f = L) : ∃ g : Nat → Int32, h a = some (.inl (t 1, L, .inl g)) ∧ zbF g := by
  obtain ⟨e, h1, h2⟩ := hT a (by rw [ha]; exact Nat.succ_ne_zero _)
  rw [ha] at h2
  have h3 : arOk t f e := h2
  unfold arOk at h3
  rw [hs] at h3
  obtain ⟨g, rfl, h4⟩ := h3
  exact ⟨g, by rw [← hl]; exact h1, h4⟩
theorem TI_arI {τ : tM} {t : Nat → ClassId} {n f : Nat} {h : hM} {a L : Nat} (hT : TI τ t n h) (ha : τ a = (30, f)) (hs : arS f = 2) (hl : arL f = L) : ∃ g : Nat → Int32, h a = some (.inl (t 2, L, .inl g)) := by
  obtain ⟨e, h1, h2⟩ := hT a (by rw [ha]; exact Nat.succ_ne_zero _)
  rw [ha] at h2
  have h3 : arOk t f e := h2
  unfold arOk at h3
  rw [hs] at h3
  obtain ⟨g, rfl⟩ := h3
  exact ⟨g, by rw [← hl]; exact h1⟩
theorem TI_arJ {τ : tM} {t : Nat → ClassId} {n f : Nat} {h : hM} {a L : Nat} (hT : TI τ t n h) (ha : τ a = (30, f)) (hs : arS f = 3) (hl : arL f = L) : ∃ g : Nat → Int64, h a = some (.inl (t 3, L, .inr (.inl g))) := by
  obtain ⟨e, h1, h2⟩ := hT a (by rw [ha]; exact Nat.succ_ne_zero _)
  rw [ha] at h2
  have h3 : arOk t f e := h2
  unfold arOk at h3
  rw [hs] at h3
  obtain ⟨g, rfl⟩ := h3
  exact ⟨g, by rw [← hl]; exact h1⟩
theorem ok_B {τ : tM} {t : Nat → ClassId} {n f L : Nat} {h : hM} {g : Nat → Int32} (hs : arS f = 0) (hl : arL f = L) (hg : sb_Fit g) : okE τ t n h (30, f) (.inl (t 0, L, .inl g)) := by
  show arOk t f _
  unfold arOk
  rw [hs, hl]
  exact ⟨g, rfl, hg⟩
theorem ok_Z {τ : tM} {t : Nat → ClassId} {n f L : Nat} {h : hM} {g : Nat → Int32} (hs : arS f = 1) (hl : arL f = L) (hg : zbF g) : okE τ t n h (30, f) (.inl (t 1, L, .inl g)) := by
  show arOk t f _
  unfold arOk
  rw [hs, hl]
  exact ⟨g, rfl, hg⟩
theorem ok_I {τ : tM} {t : Nat → ClassId} {n f L : Nat} {h : hM} {g : Nat → Int32} (hs : arS f = 2) (hl : arL f = L) : okE τ t n h (30, f) (.inl (t 2, L, .inl g)) := by
  show arOk t f _
  unfold arOk
  rw [hs, hl]
  exact ⟨g, rfl⟩
theorem ok_J {τ : tM} {t : Nat → ClassId} {n f L : Nat} {h : hM} {g : Nat → Int64} (hs : arS f = 3) (hl : arL f = L) : okE τ t n h (30, f) (.inl (t 3, L, .inr (.inl g))) := by
  show arOk t f _
  unfold arOk
  rw [hs, hl]
  exact ⟨g, rfl⟩
theorem TI_out {τ : tM} {t : Nat → ClassId} {n f : Nat} {h : hM} {a : Nat} (hT : TI τ t n h) (ha : τ a = (14, f)) : ∃ g : Nat → Int64, h a = some (.inl (t 3, 1, .inr (.inl g))) := by
  obtain ⟨e, h1, h2⟩ := hT a (by rw [ha]; exact Nat.succ_ne_zero _)
  rw [ha] at h2
  obtain ⟨g, rfl⟩ := h2
  exact ⟨g, h1⟩
theorem zbF_up {g : Nat → Int32} {j : Nat} {v : Int32} (hg : zbF g) (hv : zb v) : zbF (upd g j v) := fun i => by
  unfold upd
  split
  · exact hv
  · exact hg i
theorem zb_nar {v : Int32} (hv : zb v) : vp_nar .boolean v = v := by
  rcases hv with rfl | rfl <;> decide
/-- tagged cells whose tag is not of S stay as they are, but for those of M -/
def kf (τ : tM) (S : List (Nat × Nat)) (M : List Nat) (h h' : hM) : Prop := ∀ b, (τ b).1 ≠ 0 → τ b ∉ S → b ∉ M → h' b = h b
theorem kf_rf {τ : tM} {S : List (Nat × Nat)} {M : List Nat} {h : hM} : kf τ S M h h := fun _ _ _ _ => rfl
theorem kf_put {τ : tM} {S : List (Nat × Nat)} {M : List Nat} {h h1 : hM} {a : Nat} {e : va_E} {x : Nat × Nat} (k : kf τ S M h h1) (ha : τ a = x) (hx : x ∈ S) : kf τ S M h (hu h1 a e) := fun b hb hn hm => by
  rw [hu_n (fun q => hn (by rw [q, ha]; exact hx))]
  exact k b hb hn hm
theorem kf_putM {τ : tM} {S : List (Nat × Nat)} {M : List Nat} {h h1 : hM} {a : Nat} {e : va_E} (k : kf τ S M h h1) (ha : a ∈ M) : kf τ S M h (hu h1 a e) := fun b hb hn hm => by
  rw [hu_n (fun q => hm (by rw [q]; exact ha))]
  exact k b hb hn hm
theorem kf_putU {τ : tM} {S : List (Nat × Nat)} {M : List Nat} {h h1 : hM} {a : Nat} {e : va_E} (k : kf τ S M h h1) (ha : (τ a).1 = 0) : kf τ S M h (hu h1 a e) := fun b hb hn hm => by
  rw [hu_n (fun q => hb (by rw [q]; exact ha))]
  exact k b hb hn hm
theorem kf_tr {τ : tM} {S S' : List (Nat × Nat)} {M M' : List Nat} {h h1 h2 : hM} (k : kf τ S M h h1) (k2 : kf τ S' M' h1 h2) (hs : ∀ x ∈ S', x ∈ S) (hm : ∀ a ∈ M', a ∈ M ∨ τ a ∈ S) : kf τ S M h h2 := fun b hb hn hM => (k2 b hb (fun q => hn (hs _ q)) (fun q => by
  rcases hm b q with h3 | h3
  · exact hM h3
  · exact hn h3)).trans (k b hb hn hM)
theorem kf_at {τ : tM} {S : List (Nat × Nat)} {M : List Nat} {h h1 : hM} {b k f : Nat} {e : va_E} (kk : kf τ S M h h1) (hb : τ b = (k, f)) (hk : k ≠ 0) (hn : (k, f) ∉ S) (hm : b ∉ M) (he : h b = some e) : h1 b = some e := by
  rw [kk b (by rw [hb]; exact hk) (by rw [hb]; exact hn) hm]
  exact he
theorem nodA_up {τ : tM} {f j v : Nat} {g : Nat → Option Nat} (hg : nodA τ f g) (hv : τ v = (10, f)) : nodA τ f (va_up g j (some v)) := fun i hi => by
  unfold va_up
  split
  · exact ⟨v, rfl, hv⟩
  · exact hg i hi
/-- number and parent of a node -/
def nod (h : hM) (a : Nat) : Option (Value × Value) := match h a with
  | some (.inr (1, x :: y :: _)) => some (x, y)
  | _ => none
def knp (τ : tM) (f : Nat) (h h' : hM) : Prop := ∀ a, τ a = (10, f) → nod h' a = nod h a
theorem knp_rf {τ : tM} {f : Nat} {h : hM} : knp τ f h h := fun _ _ => rfl
theorem knp_tr {τ : tM} {f : Nat} {h h1 h2 : hM} (a : knp τ f h h1) (b : knp τ f h1 h2) : knp τ f h h2 := fun q hq => (b q hq).trans (a q hq)
theorem knp_put {τ : tM} {f a : Nat} {h h1 : hM} {x y : Value} {l l' : List Value} (k : knp τ f h h1) (ha : h1 a = some (.inr (1, x :: y :: l))) : knp τ f h (hu h1 a (.inr (1, x :: y :: l'))) := fun q hq => by
  by_cases hqa : q = a
  · subst hqa
    rw [← k q hq]
    simp [nod, hu_s, ha]
  · rw [← k q hq]
    simp [nod, hu_n hqa]
theorem knp_put2 {τ : tM} {f a : Nat} {h h1 : hM} {e : va_E} (k : knp τ f h h1) (ha : τ a ≠ (10, f)) : knp τ f h (hu h1 a e) := fun q hq => by
  rw [← k q hq]
  simp [nod, hu_n (fun z => ha (by rw [← z]; exact hq) : q ≠ a)]
theorem knp_kf {τ : tM} {f : Nat} {h h1 h2 : hM} {S : List (Nat × Nat)} {M : List Nat} (k : knp τ f h h1) (k2 : kf τ S M h1 h2) (hS : (10, f) ∉ S) (hM : ∀ a ∈ M, τ a ≠ (10, f)) : knp τ f h h2 := fun q hq => by
  rw [← k q hq]
  unfold nod
  rw [k2 q (by rw [hq]; exact Nat.succ_ne_zero _) (by rw [hq]; exact hS) (fun z => hM q z hq)]
theorem tne {τ : tM} {a b k1 f1 k2 f2 : Nat} (ha : τ a = (k1, f1)) (hb : τ b = (k2, f2)) (h : k1 ≠ k2) : a ≠ b := fun q => by
  rw [q, hb] at ha
  exact h (congrArg Prod.fst ha).symm
theorem tneF {τ : tM} {a b k f1 f2 : Nat} (ha : τ a = (k, f1)) (hb : τ b = (k, f2)) (h : f1 ≠ f2) : a ≠ b := fun q => by
  rw [q, hb] at ha
  exact h (congrArg Prod.snd ha).symm
theorem tne0 {τ : tM} {a b k f : Nat} (ha : τ a = (k, f)) (hk : k ≠ 0) (hb : (τ b).1 = 0) : a ≠ b := fun q => by
  rw [← q, ha] at hb
  exact hk hb
theorem tn0 {x : Nat × Nat} : x ∉ ([] : List (Nat × Nat)) := fun h => by cases h
theorem tnc {k f k1 f1 : Nat} {S : List (Nat × Nat)} (n : k ≠ k1) (h : (k, f) ∉ S) : (k, f) ∉ (k1, f1) :: S := fun q => by
  rcases List.mem_cons.mp q with h1 | h1
  · exact n (congrArg Prod.fst h1)
  · exact h h1
theorem tncF {k f k1 f1 : Nat} {S : List (Nat × Nat)} (n : f ≠ f1) (h : (k, f) ∉ S) : (k, f) ∉ (k1, f1) :: S := fun q => by
  rcases List.mem_cons.mp q with h1 | h1
  · exact n (congrArg Prod.snd h1)
  · exact h h1
/-! numbers -/
theorem iLt {x y : Int32} (h : x < y) : x.toInt < y.toInt := Int32.lt_iff_toInt_lt.mp h
theorem iLe {x y : Int32} (h : x ≤ y) : x.toInt ≤ y.toInt := Int32.le_iff_toInt_le.mp h
theorem iNl {x y : Int32} (h : ¬ x < y) : y.toInt ≤ x.toInt := by
  rw [Int32.lt_iff_toInt_lt] at h
  omega
theorem iNe {x y : Int32} (h : ¬ x ≤ y) : y.toInt < x.toInt := by
  rw [Int32.le_iff_toInt_le] at h
  omega
theorem iUp (x : Int32) : x.toInt < 2147483648 := Int32.toInt_lt x
theorem iDn (x : Int32) : -2147483648 ≤ x.toInt := Int32.le_toInt x
theorem iAdd {x y : Int32} (h1 : -2147483648 ≤ x.toInt + y.toInt) (h2 : x.toInt + y.toInt < 2147483648) : (x + y).toInt = x.toInt + y.toInt := by
  rw [Int32.toInt_add]
  exact Int.bmod_eq_of_le (by omega) (by omega)
theorem iSub {x y : Int32} (h1 : -2147483648 ≤ x.toInt - y.toInt) (h2 : x.toInt - y.toInt < 2147483648) : (x - y).toInt = x.toInt - y.toInt := by
  rw [Int32.toInt_sub]
  exact Int.bmod_eq_of_le (by omega) (by omega)
theorem iAddK {x y : Int32} (k : Int) (hk : y.toInt = k) (h1 : -2147483648 ≤ x.toInt + k) (h2 : x.toInt + k < 2147483648) : (x + y).toInt = x.toInt + k := by
  subst hk
  exact iAdd h1 h2
theorem iAddL {x y : Int32} (k : Int) (hk : x.toInt = k) (h1 : -2147483648 ≤ k + y.toInt) (h2 : k + y.toInt < 2147483648) : (x + y).toInt = k + y.toInt := by
  subst hk
  exact iAdd h1 h2
theorem iSubK {x y : Int32} (k : Int) (hk : y.toInt = k) (h1 : -2147483648 ≤ x.toInt - k) (h2 : x.toInt - k < 2147483648) : (x - y).toInt = x.toInt - k := by
  subst hk
  exact iSub h1 h2
theorem iSubL {x y : Int32} (k : Int) (hk : x.toInt = k) (h1 : -2147483648 ≤ k - y.toInt) (h2 : k - y.toInt < 2147483648) : (x - y).toInt = k - y.toInt := by
  subst hk
  exact iSub h1 h2
theorem iDecK {x y : Int32} (k : Int) (hk : y.toInt = -k) (h0 : 0 ≤ k ∧ k ≤ 1000) (h : 0 ≤ x.toInt) : (x + y).toInt = x.toInt + -k := by
  have h1 := iUp x
  rw [← hk]
  exact iAdd (by omega) (by omega)
theorem iDecS {x y : Int32} (k : Int) (hk : y.toInt = k) (h0 : 0 ≤ k ∧ k ≤ 1000) (h : 0 ≤ x.toInt) : (x - y).toInt = x.toInt - k := by
  have h1 := iUp x
  rw [← hk]
  exact iSub (by omega) (by omega)
theorem iSubP {x y : Int32} (h1 : 0 ≤ x.toInt) (h2 : 0 ≤ y.toInt) : (x - y).toInt = x.toInt - y.toInt := by
  have h3 := iUp x
  have h4 := iUp y
  exact iSub (by omega) (by omega)
theorem iIn {x : Int32} {n : Nat} (h1 : 0 ≤ x.toInt) (h2 : x.toInt < n) : vp_in x n := by
  rintro (h | h)
  · have := iLt h
    rw [show (0 : Int32).toInt = 0 from rfl] at this
    omega
  · rw [show x.toNatClampNeg = x.toInt.toNat from rfl] at h
    omega
theorem iCl {x : Int32} {n : Nat} (h1 : 0 ≤ x.toInt) (h2 : x.toInt < n) : x.toNatClampNeg < n := by
  rw [show x.toNatClampNeg = x.toInt.toNat from rfl]
  omega
def mU (i : Int32) : Nat := (2147483648 - i.toInt).toNat
theorem mU_lt {i j : Int32} (h : i.toInt < j.toInt) : mU j < mU i := by
  have := iUp j
  unfold mU
  omega
def mD (i : Int32) : Nat := (i.toInt + 2147483648).toNat
theorem mD_lt {i j : Int32} (h : j.toInt < i.toInt) : mD j < mD i := by
  have := iDn j
  unfold mD
  omega
theorem i_div {x d : Int32} (hd : 0 < d.toInt) (h : 0 ≤ x.toInt) : (x / d).toInt = x.toInt / d.toInt := by
  rw [Int32.toInt_div, Int.tdiv_eq_ediv_of_nonneg h]
  have h1 := iUp x
  have h2 : x.toInt / d.toInt ≤ x.toInt := Int.ediv_le_self _ h
  have h3 : 0 ≤ x.toInt / d.toInt := Int.ediv_nonneg h (by omega)
  exact Int.bmod_eq_of_le (by omega) (by omega)
theorem i_mul {x y : Int32} (h1 : -2147483648 ≤ x.toInt * y.toInt) (h2 : x.toInt * y.toInt < 2147483648) : (x * y).toInt = x.toInt * y.toInt := by
  rw [Int32.toInt_mul]
  exact Int.bmod_eq_of_le (by omega) (by omega)
theorem i_mod {x d : Int32} (hd : 0 < d.toInt) (h : 0 ≤ x.toInt) : (x - x / d * d).toInt = x.toInt % d.toInt := by
  have h1 := iUp x
  have h5 := i_div hd h
  have h2 : x.toInt / d.toInt ≤ x.toInt := Int.ediv_le_self _ h
  have h3 : 0 ≤ x.toInt / d.toInt := Int.ediv_nonneg h (by omega)
  have h6 : x.toInt / d.toInt * d.toInt ≤ x.toInt := Int.ediv_mul_le _ (by omega)
  have h7 : 0 ≤ x.toInt / d.toInt * d.toInt := Int.mul_nonneg h3 (by omega)
  have h4 : (x / d * d).toInt = x.toInt / d.toInt * d.toInt := by
    rw [← h5]
    exact i_mul (by rw [h5]; omega) (by rw [h5]; omega)
  rw [iSub (by omega) (by omega), h4, Int.emod_def, Int.mul_comm]
theorem i_and255 (x : Int32) : -1 ≤ (x &&& 255).toInt ∧ (x &&& 255).toInt ≤ 255 := by
  have h : (x &&& 255).toBitVec.toNat ≤ 255 := by
    rw [Int32.toBitVec_and, BitVec.toNat_and]
    exact Nat.and_le_right
  have h2 : (x &&& 255).toInt = ((x &&& 255).toBitVec.toNat : Int) := by
    rw [← Int32.toInt_toBitVec, BitVec.toInt_eq_toNat_of_lt (by omega)]
  omega
/-! a page's row filled by Arrays.fill -/
theorem kf_kp {τ : tM} {t : Nat → ClassId} {n f : Nat} {h h' : hM} {a : Nat} (hT : TI τ t n h) (hk : kp [a] h h') (ha : τ a = (5, f)) : kf τ [(5, f)] [] h h' := fun b hb hn _ => by
  obtain ⟨e, h1, -⟩ := hT b hb
  rw [h1]
  exact hk b e h1 (nmc (fun z => hn (by rw [z, ha]; exact List.mem_cons_self)) nm0)
theorem TI_kp {τ : tM} {t : Nat → ClassId} {n f : Nat} {h h' : hM} {a : Nat} (hT : TI τ t n h) (hk : kp [a] h h') (ha : τ a = (5, f)) (hp : pgF t h' a (pgn f)) : TI τ t n h' := by
  intro b hb
  by_cases hba : b = a
  · subst hba
    obtain ⟨g, h1, h2⟩ := hp
    exact ⟨_, h2, by rw [ha]; exact ⟨g, rfl, h1⟩⟩
  · obtain ⟨e, h1, h2⟩ := hT b hb
    refine ⟨e, hk b e h1 (nmc hba nm0), okE_mono (fun q hq => ?_) h2⟩
    obtain ⟨h3, g, h4, h5⟩ := hq
    exact ⟨h3, g, h4, hk q _ h5 (nmc (fun z => by rw [z, ha] at h3; cases h3) nm0)⟩
theorem sl_8 {i : Nat} (h : i < 3) : sLen.getD i 0 ≤ 8 := by
  rcases (show i = 0 ∨ i = 1 ∨ i = 2 by omega) with rfl | rfl | rfl <;> decide

/-! MY OWN ROWS: trees. Chains of parents end; what is live lies in what is live. -/
abbrev pF : Type := Nat → Option Nat
def Ch (pr : pF) : Nat → Nat → Prop
  | 0, a => pr a = none
  | k + 1, a => ∃ p, pr a = some p ∧ Ch pr k p
/-- a chain that x is not in -/
def ChN (pr : pF) (x : Nat) : Nat → Nat → Prop
  | 0, a => a ≠ x ∧ pr a = none
  | k + 1, a => a ≠ x ∧ ∃ p, pr a = some p ∧ ChN pr x k p
def Tr (pr : pF) (Lv : Nat → Prop) : Prop := ∀ a, Lv a → (∃ k, Ch pr k a) ∧ ∀ p, pr a = some p → Lv p
theorem Ch_same {pr pr' : pF} {Lv : Nat → Prop} (hcl : ∀ a, Lv a → ∀ p, pr a = some p → Lv p) (hs : ∀ a, Lv a → pr' a = pr a) : ∀ k a, Lv a → Ch pr k a → Ch pr' k a := by
  intro k
  induction k with
  | zero => intro a ha hc; rw [Ch, hs a ha]; exact hc
  | succ k ih =>
    intro a ha hc
    obtain ⟨p, h1, h2⟩ := hc
    exact ⟨p, by rw [hs a ha]; exact h1, ih p (hcl a ha p h1) h2⟩
theorem Tr_same {pr pr' : pF} {Lv : Nat → Prop} (hT : Tr pr Lv) (hs : ∀ a, Lv a → pr' a = pr a) : Tr pr' Lv := fun a ha => by
  obtain ⟨⟨k, hk⟩, hp⟩ := hT a ha
  exact ⟨⟨k, Ch_same (fun b hb => (hT b hb).2) hs k a ha hk⟩, fun p h1 => hp p (by rw [← hs a ha]; exact h1)⟩
/-- a node more, in a live one -/
theorem Tr_add {pr pr' : pF} {Lv Lv' : Nat → Prop} {x P : Nat} (hT : Tr pr Lv) (hP : Lv P) (h1 : pr' x = some P) (h2 : ∀ a, Lv a → pr' a = pr a) (hL : ∀ a, Lv' a ↔ (Lv a ∨ a = x)) : Tr pr' Lv' := by
  have hT' := Tr_same hT h2
  intro a ha
  rcases (hL a).mp ha with h3 | rfl
  · obtain ⟨hk, hp⟩ := hT' a h3
    exact ⟨hk, fun p h4 => (hL p).mpr (Or.inl (hp p h4))⟩
  · obtain ⟨⟨k, hk⟩, -⟩ := hT' P hP
    exact ⟨⟨k + 1, P, h1, hk⟩, fun p hp => by rw [h1] at hp; cases hp; exact (hL P).mpr (Or.inl hP)⟩
theorem ChN_Ch {pr pr' : pF} {x : Nat} (h2 : ∀ a, a ≠ x → pr' a = pr a) : ∀ k a, ChN pr x k a → Ch pr' k a := by
  intro k
  induction k with
  | zero => intro a ha; rw [Ch, h2 a ha.1]; exact ha.2
  | succ k ih =>
    intro a ha
    obtain ⟨h3, p, h4, h5⟩ := ha
    exact ⟨p, by rw [h2 a h3]; exact h4, ih p h5⟩
/-- a node goes into a live one that does not lie in it -/
theorem Tr_move {pr pr' : pF} {Lv : Nat → Prop} {x P kP : Nat} (hT : Tr pr Lv) (hP : Lv P) (hN : ChN pr x kP P) (h1 : pr' x = some P) (h2 : ∀ a, a ≠ x → pr' a = pr a) : Tr pr' Lv := by
  have hPc := ChN_Ch h2 kP P hN
  have all : ∀ k a, Ch pr k a → ∃ k', Ch pr' k' a := by
    intro k
    induction k with
    | zero =>
      intro a ha
      by_cases hax : a = x
      · subst hax
        exact ⟨kP + 1, P, h1, hPc⟩
      · exact ⟨0, by rw [Ch, h2 a hax]; exact ha⟩
    | succ k ih =>
      intro a ha
      by_cases hax : a = x
      · subst hax
        exact ⟨kP + 1, P, h1, hPc⟩
      · obtain ⟨p, h3, h4⟩ := ha
        obtain ⟨k', hk'⟩ := ih p h4
        exact ⟨k' + 1, p, by rw [h2 a hax]; exact h3, hk'⟩
  intro a ha
  obtain ⟨⟨k, hk⟩, hp⟩ := hT a ha
  refine ⟨all k a hk, fun p h3 => ?_⟩
  by_cases hax : a = x
  · subst hax
    rw [h1] at h3
    cases h3
    exact hP
  · exact hp p (by rw [← h2 a hax]; exact h3)
/-- a node that nothing lies in is taken out -/
theorem Tr_drop {pr pr' : pF} {Lv Lv' : Nat → Prop} {x : Nat} (hT : Tr pr Lv) (hno : ∀ a, Lv a → pr a ≠ some x) (hs : ∀ a, Lv a → pr' a = pr a) (hl : ∀ a, Lv' a ↔ (Lv a ∧ a ≠ x)) : Tr pr' Lv' := by
  have hT' := Tr_same hT hs
  intro a ha
  obtain ⟨h1, h2⟩ := (hl a).mp ha
  obtain ⟨hk, hp⟩ := hT' a h1
  exact ⟨hk, fun p h3 => (hl p).mpr ⟨hp p h3, fun z => hno a h1 (by rw [← z, ← hs a h1]; exact h3)⟩⟩
theorem Tr_one {pr : pF} {Lv : Nat → Prop} {r : Nat} (hL : ∀ a, Lv a → a = r) (hp : pr r = none) : Tr pr Lv := fun a ha => by
  obtain rfl := hL a ha
  exact ⟨⟨0, hp⟩, fun p h3 => by rw [hp] at h3; cases h3⟩
/-- each lies in an earlier one -/
theorem Tr_rank {pr : pF} {Lv : Nat → Prop} (rk : Nat → Nat) (h : ∀ a, Lv a → ∀ p, pr a = some p → Lv p ∧ rk p < rk a) : Tr pr Lv := by
  have all : ∀ n a, rk a < n → Lv a → ∃ k, Ch pr k a := by
    intro n
    induction n with
    | zero => intro a ha; omega
    | succ n ih =>
      intro a ha hl
      cases hp : pr a with
      | none => exact ⟨0, hp⟩
      | some p =>
        obtain ⟨h1, h2⟩ := h a hl p hp
        obtain ⟨k, hk⟩ := ih p (by omega) h1
        exact ⟨k + 1, p, hp, hk⟩
  exact fun a ha => ⟨all (rk a + 1) a (by omega) ha, fun p hp => (h a ha p hp).1⟩
/-! walking up -/
def dpI (pr : pF) (k : Nat) (o : Option Nat) : Prop := match o with
  | none => True
  | some a => ∃ j, k = j + 1 ∧ Ch pr j a
theorem dpI_next {pr : pF} {k a : Nat} {v : Option Nat} (hd : dpI pr k (some a)) (hv : pr a = v) : ∃ k', k' < k ∧ dpI pr k' v := by
  obtain ⟨j, rfl, hj⟩ := hd
  cases j with
  | zero =>
    rw [Ch, hv] at hj
    subst hj
    exact ⟨0, by omega, trivial⟩
  | succ j =>
    obtain ⟨p, h1, h2⟩ := hj
    rw [hv] at h1
    subst h1
    exact ⟨j + 1, by omega, j, rfl, h2⟩
def wiI (pr : pF) (x a : Nat) (o : Option Nat) : Prop := match o with
  | none => ∃ j, ChN pr x j a
  | some u => ∀ j, ChN pr x j u → ∃ j', ChN pr x j' a
theorem wiI_next {pr : pF} {x a u : Nat} {v : Option Nat} (hd : wiI pr x a (some u)) (hn : u ≠ x) (hv : pr u = v) : wiI pr x a v := by
  cases v with
  | none => exact hd 0 ⟨hn, hv⟩
  | some p => exact fun j hj => hd (j + 1) ⟨hn, p, hv, hj⟩
/-! the class's nodes -/
def prt (h : hM) : pF := fun a => match nod h a with
  | some (_, .ref p) => some p
  | _ => none
theorem nod_of {h : hM} {a : Nat} {x y : Value} {l : List Value} (ha : h a = some (.inr (1, x :: y :: l))) : nod h a = some (x, y) := by simp [nod, ha]
theorem prt_of {h : hM} {a : Nat} {x : Value} {v : Option Nat} {l : List Value} (ha : h a = some (.inr (1, x :: va_rf v :: l))) : prt h a = v := by
  cases v <;> simp [prt, nod, ha, va_rf]
theorem prt_nod {h h' : hM} {a : Nat} (e : nod h' a = nod h a) : prt h' a = prt h a := by simp [prt, e]
def live (sl : Nat → Option Nat) (c : Nat) : Nat → Prop := fun a => ∃ i, i < c ∧ sl i = some a
/-- nodes as reading lays them: their places are their numbers, each lies in an earlier one -/
def rdN (h : hM) (sl : Nat → Option Nat) (c : Nat) : Prop := ∀ i, i < c → ∃ a pv, sl i = some a ∧ nod h a = some (.int (nI i), pv) ∧ ((i = 0 ∧ pv = .null) ∨ ∃ j b, j < i ∧ sl j = some b ∧ pv = .ref b)
theorem rdN_same {h h' : hM} {sl : Nat → Option Nat} {c : Nat} (hR : rdN h sl c) (hs : ∀ a, live sl c a → nod h' a = nod h a) : rdN h' sl c := fun i hi => by
  obtain ⟨a, pv, h1, h2, h3⟩ := hR i hi
  exact ⟨a, pv, h1, by rw [hs a ⟨i, hi, h1⟩]; exact h2, h3⟩
theorem rdN_Tr {h : hM} {sl : Nat → Option Nat} {c : Nat} (hR : rdN h sl c) : Tr (prt h) (live sl c) := by
  have all : ∀ n i, i < n → i < c → ∀ a, sl i = some a → ∃ k, Ch (prt h) k a := by
    intro n
    induction n with
    | zero => intro i hi; omega
    | succ n ih =>
      intro i hi hic a ha
      obtain ⟨a', pv, h1, h2, h3⟩ := hR i hic
      obtain rfl : a' = a := Option.some.inj (h1.symm.trans ha)
      rcases h3 with ⟨-, h4⟩ | ⟨j, b, hj, hb, h4⟩
      · exact ⟨0, by simp [Ch, prt, h2, h4]⟩
      · obtain ⟨k, hk⟩ := ih j (by omega) (by omega) b hb
        exact ⟨k + 1, b, by simp [prt, h2, h4], hk⟩
  intro a ⟨i, hi, hs⟩
  refine ⟨all (i + 1) i (by omega) hi a hs, fun p hp => ?_⟩
  obtain ⟨a', pv, h1, h2, h3⟩ := hR i hi
  obtain rfl : a' = a := Option.some.inj (h1.symm.trans hs)
  rcases h3 with ⟨-, h4⟩ | ⟨j, b, hj, hb, h4⟩
  · simp [prt, h2, h4] at hp
  · simp [prt, h2, h4] at hp
    subst hp
    exact ⟨j, by omega, hb⟩
theorem rdN_add {h h' : hM} {sl : Nat → Option Nat} {c x : Nat} {pv : Value} (hR : rdN h sl c) (hx : sl c = some x) (hn : nod h' x = some (.int (nI c), pv)) (hpv : (c = 0 ∧ pv = .null) ∨ ∃ j b, j < c ∧ sl j = some b ∧ pv = .ref b) (hs : ∀ a, live sl c a → nod h' a = nod h a) : rdN h' sl (c + 1) := fun i hi => by
  by_cases hic : i = c
  · subst hic
    exact ⟨x, pv, hx, hn, hpv⟩
  · exact rdN_same hR hs i (by omega)
theorem live_succ {sl : Nat → Option Nat} {c x : Nat} (hx : sl c = some x) (a : Nat) : live sl (c + 1) a ↔ (live sl c a ∨ a = x) := by
  constructor
  · rintro ⟨i, hi, hs⟩
    by_cases hic : i = c
    · subst hic
      exact Or.inr (Option.some.inj (hs.symm.trans hx))
    · exact Or.inl ⟨i, by omega, hs⟩
  · rintro (⟨i, hi, hs⟩ | rfl)
    · exact ⟨i, by omega, hs⟩
    · exact ⟨c, by omega, hx⟩
theorem live_ne {sl : Nat → Option Nat} {c x a : Nat} (hi : injA sl) (hc : c < 30) (hx : sl c = some x) (ha : live sl c a) : a ≠ x := by
  rintro rfl
  obtain ⟨i, h1, h2⟩ := ha
  have := hi i c (by omega) hc (h2.trans hx.symm)
  omega
/-! the nodes of a Nodes, by their cells -/
def Nds (t : Nat → ClassId) (h : hM) (P s o : Nat) (c nn : Int32) (sl : Nat → Option Nat) : Prop := h P = some (.inr (2, [.ref s, .ref o, .int c, .int nn])) ∧ h s = some (.inl (t 4, 30, .inr (.inr (.inr (.inr sl)))))
theorem Nds_eq {t : Nat → ClassId} {h : hM} {P s o s' o' : Nat} {c nn c' nn' : Int32} {sl sl' : Nat → Option Nat} (h1 : Nds t h P s o c nn sl) (h2 : Nds t h P s' o' c' nn' sl') : s = s' ∧ o = o' ∧ c = c' ∧ nn = nn' ∧ sl = sl' := by
  obtain ⟨a1, a2⟩ := h1
  obtain ⟨b1, b2⟩ := h2
  rw [a1] at b1
  cases b1
  rw [a2] at b2
  cases b2
  exact ⟨rfl, rfl, rfl, rfl, rfl⟩
/-- the tree of a Nodes: chains end, what lies there is there -/
def TrP (t : Nat → ClassId) (h : hM) (P : Nat) : Prop := ∃ s o c nn sl, Nds t h P s o c nn sl ∧ 0 ≤ c.toInt ∧ c.toInt ≤ 30 ∧ Tr (prt h) (live sl c.toInt.toNat)
/-- a node of P has the number -/
def ndl (t : Nat → ClassId) (h : hM) (P a : Nat) (no : Int32) : Prop := ∃ s o c nn sl i y, Nds t h P s o c nn sl ∧ i < c.toInt.toNat ∧ sl i = some a ∧ nod h a = some (.int no, y)
/-- no node of P has the number -/
def ndn (t : Nat → ClassId) (h : hM) (P : Nat) (no : Int32) : Prop := ∀ s o c nn sl, Nds t h P s o c nn sl → ∀ i a y, i < c.toInt.toNat → sl i = some a → nod h a ≠ some (.int no, y)
theorem ndl_ch {t : Nat → ClassId} {h : hM} {P a : Nat} {no : Int32} (hn : ndl t h P a no) (hT : TrP t h P) : ∃ k, Ch (prt h) k a := by
  obtain ⟨s, o, c, nn, sl, i, y, h1, h2, h3, -⟩ := hn
  obtain ⟨s', o', c', nn', sl', g1, -, -, g2⟩ := hT
  obtain ⟨rfl, rfl, rfl, rfl, rfl⟩ := Nds_eq h1 g1
  exact (g2 a ⟨i, h2, h3⟩).1
theorem TrP_same {τ : tM} {t : Nat → ClassId} {n f : Nat} {h h' : hM} {P : Nat} (hI : TI τ t n h) (hP : τ P = (7, f)) (hT : TrP t h P) (h1 : h' P = h P) (h2 : ∀ s, τ s = (8, f) → h' s = h s) (h3 : knp τ f h h') : TrP t h' P := by
  obtain ⟨s, o, c, nn, sl, ⟨g1, g2⟩, g3, g4, g5⟩ := hT
  obtain ⟨t1, t2, -⟩ := TJ_nds hI hP g1
  obtain ⟨t3, -⟩ := TJ_slo hI t1 g2
  refine ⟨s, o, c, nn, sl, ⟨by rw [h1]; exact g1, by rw [h2 s t1]; exact g2⟩, g3, g4, Tr_same g5 (fun a ha => ?_)⟩
  obtain ⟨i, hi, hs⟩ := ha
  obtain ⟨a', e1, e2⟩ := t3 i (by omega)
  obtain rfl : a' = a := Option.some.inj (e1.symm.trans hs)
  exact prt_nod (h3 a' e2)
theorem iClt {x c : Int32} (h0 : 0 ≤ x.toInt) (h : x.toInt < c.toInt) : x.toNatClampNeg < c.toInt.toNat := by
  rw [show x.toNatClampNeg = x.toInt.toNat from rfl]
  omega
theorem nxt9 {Q : Nat → Nat → Prop} {g : Nat → Option Nat} {i j : Int32} {x : Nat} (h0 : 0 ≤ i.toInt) (hs : j.toInt = i.toInt + 1) (hN : ∀ k a, k < i.toInt.toNat → g k = some a → Q k a) (e : g i.toNatClampNeg = some x) (hx : Q i.toNatClampNeg x) : ∀ k a, k < j.toInt.toNat → g k = some a → Q k a := fun k a hk ha => by
  by_cases hki : k = i.toNatClampNeg
  · subst hki
    obtain rfl : x = a := Option.some.inj (e.symm.trans ha)
    exact hx
  · refine hN k a ?_ ha
    rw [show i.toNatClampNeg = i.toInt.toNat from rfl] at hki
    omega
theorem nod_no {h : hM} {a : Nat} {v no : Int32} {y : Value} {l : List Value} (ha : h a = some (.inr (1, .int v :: y :: l))) (hn : ¬ v = no) : ∀ z, nod h a ≠ some (.int no, z) := fun z q => by
  rw [nod_of ha] at q
  cases q
  exact hn rfl
theorem prt_no {h : hM} {a d : Nat} {x : Value} {v : Option Nat} {l : List Value} (ha : h a = some (.inr (1, x :: va_rf v :: l))) (hn : ¬ v = some d) : prt h a ≠ some d := by
  rw [prt_of ha]
  exact hn
/-! sectors that have no row yet -/
def nul (h : hM) (a : Nat) : Prop := ∃ c d, h a = some (.inr (6, [.int c, .int d, .null]))
def nlp (τ : tM) (h h' : hM) : Prop := ∀ a, τ a = (13, 0) → nul h' a → nul h a
theorem nlp_rf {τ : tM} {h : hM} : nlp τ h h := fun _ _ q => q
theorem nlp_tr {τ : tM} {h h1 h2 : hM} (a : nlp τ h h1) (b : nlp τ h1 h2) : nlp τ h h2 := fun q hq z => a q hq (b q hq z)
theorem nlp_put {τ : tM} {h h1 : hM} {a : Nat} {x y : Int32} {x' y' b : Value} (k : nlp τ h h1) (ha : h1 a = some (.inr (6, [.int x, .int y, b]))) : nlp τ h (hu h1 a (.inr (6, [x', y', b]))) := fun q hq hn => by
  refine k q hq ?_
  by_cases hqa : q = a
  · subst hqa
    obtain ⟨c, d, h2⟩ := hn
    rw [hu_s] at h2
    simp only [Option.some.injEq, Sum.inr.injEq, Prod.mk.injEq, List.cons.injEq, true_and, and_true] at h2
    exact ⟨x, y, by rw [ha, h2.2.2]⟩
  · obtain ⟨c, d, h2⟩ := hn
    rw [hu_n hqa] at h2
    exact ⟨c, d, h2⟩
theorem nlp_put2 {τ : tM} {h h1 : hM} {a : Nat} {e : va_E} (k : nlp τ h h1) (ha : τ a ≠ (13, 0)) : nlp τ h (hu h1 a e) := fun q hq hn => by
  refine k q hq ?_
  obtain ⟨c, d, h2⟩ := hn
  rw [hu_n (fun z => ha (by rw [← z]; exact hq))] at h2
  exact ⟨c, d, h2⟩
theorem nlp_kf {τ : tM} {h h1 h2 : hM} {S : List (Nat × Nat)} {M : List Nat} (k : nlp τ h h1) (k2 : kf τ S M h1 h2) (hS : (13, 0) ∉ S) (hM : ∀ a ∈ M, τ a ≠ (13, 0)) : nlp τ h h2 := fun q hq hn => by
  refine k q hq ?_
  obtain ⟨c, d, h3⟩ := hn
  rw [k2 q (by rw [hq]; exact Nat.succ_ne_zero _) (by rw [hq]; exact hS) (fun z => hM q z hq)] at h3
  exact ⟨c, d, h3⟩
theorem fitCp9 {f g : Nat → Int32} {sp dp n : Nat} (hf : sb_Fit f) (hg : sb_Fit g) : sb_Fit (va_cpy f g sp dp n) := fun k => by
  unfold va_cpy
  split
  · exact hf _
  · exact hg _
/-! a node taken out of the row -/
def shF (sl : Nat → Option Nat) (ix k : Nat) : Nat → Option Nat := fun j => if ix ≤ j ∧ j < k then sl (j + 1) else sl j
theorem shF_0 {sl : Nat → Option Nat} {ix k : Nat} (h : k ≤ ix) : shF sl ix k = sl := by
  funext j
  unfold shF
  rw [if_neg (by omega)]
theorem shF_at {sl : Nat → Option Nat} {ix k i : Nat} (h : k ≤ i) : shF sl ix k i = sl i := by
  unfold shF
  rw [if_neg (by omega)]
theorem shF_up {sl : Nat → Option Nat} {ix k i : Nat} {a : Nat} (h : (i < ix ∧ k = i) ∨ (ix < i ∧ k + 1 = i)) (ha : sl i = some a) : va_up (shF sl ix k) k (some a) = shF sl ix (k + 1) := by
  funext j
  unfold va_up shF
  by_cases hj : j = k
  · subst hj
    rw [if_pos rfl]
    rcases h with ⟨h1, h2⟩ | ⟨h1, h2⟩
    · subst h2
      rw [if_neg (by omega), ha]
    · subst h2
      rw [if_pos (by omega), ha]
  · rw [if_neg hj]
    by_cases h1 : ix ≤ j ∧ j < k
    · rw [if_pos h1, if_pos (by omega)]
    · rw [if_neg h1, if_neg (by omega)]
theorem shF_nod {τ : tM} {f ix k : Nat} {sl : Nat → Option Nat} (h : nodA τ f sl) (hk : k < 30) : nodA τ f (shF sl ix k) := fun i hi => by
  unfold shF
  split
  · exact h (i + 1) (by omega)
  · exact h i hi
/-- the row at the end: x behind the others -/
theorem shF_end {sl : Nat → Option Nat} {ix c x : Nat} (hi : injA sl) (hc : c + 1 ≤ 30) (hix : ix < c + 1) (hx : sl ix = some x) : injA (va_up (shF sl ix c) c (some x)) ∧ ∀ a, live (va_up (shF sl ix c) c (some x)) c a ↔ (live sl (c + 1) a ∧ a ≠ x) := by
  have val : ∀ j, j < 30 → va_up (shF sl ix c) c (some x) j = sl (if j = c then ix else if ix ≤ j ∧ j < c then j + 1 else j) := by
    intro j hj
    unfold va_up shF
    by_cases h1 : j = c
    · rw [if_pos h1, if_pos h1, hx]
    · rw [if_neg h1, if_neg h1]
      by_cases h2 : ix ≤ j ∧ j < c
      · rw [if_pos h2, if_pos h2]
      · rw [if_neg h2, if_neg h2]
  refine ⟨fun i j hi9 hj9 he => ?_, fun a => ⟨?_, ?_⟩⟩
  · rw [val i hi9, val j hj9] at he
    have := hi _ _ (by split <;> (try split) <;> omega) (by split <;> (try split) <;> omega) he
    by_cases h1 : i = c <;> by_cases h2 : j = c <;> simp only [h1, h2, if_true, if_false] at this ⊢ <;> (try (split at this)) <;> (try (split at this)) <;> omega
  · rintro ⟨j, hj, ha⟩
    rw [val j (by omega), if_neg (by omega)] at ha
    by_cases h2 : ix ≤ j ∧ j < c
    · rw [if_pos h2] at ha
      refine ⟨⟨j + 1, by omega, ha⟩, fun z => ?_⟩
      have := hi (j + 1) ix (by omega) (by omega) (by rw [ha, hx, z])
      omega
    · rw [if_neg h2] at ha
      refine ⟨⟨j, by omega, ha⟩, fun z => ?_⟩
      have := hi j ix (by omega) (by omega) (by rw [ha, hx, z])
      omega
  · rintro ⟨⟨j, hj, ha⟩, hne⟩
    have hji : j ≠ ix := fun z => hne (by rw [z, hx] at ha; exact (Option.some.inj ha).symm)
    by_cases h2 : j < ix
    · exact ⟨j, by omega, by rw [val j (by omega), if_neg (by omega), if_neg (by omega)]; exact ha⟩
    · refine ⟨j - 1, by omega, ?_⟩
      rw [val (j - 1) (by omega), if_neg (by omega), if_pos (by omega), show j - 1 + 1 = j by omega]
      exact ha
/-- two tagged cells written, all else as it was -/
theorem TI_two {τ : tM} {t : Nat → ClassId} {n k1 f1 k2 f2 : Nat} {h h' : hM} {a b : Nat} {ea eb : va_E} (hT : TI τ t n h) (ha : τ a = (k1, f1)) (hk1 : k1 ≠ 0) (hb : τ b = (k2, f2)) (hk2 : k2 ≠ 0) (he : ∀ q, q ≠ a → q ≠ b → h' q = h q) (h1 : h' a = some ea) (h2 : h' b = some eb) (o1 : okE τ t n h' (k1, f1) ea) (o2 : okE τ t n h' (k2, f2) eb) : TI τ t n h' := by
  intro q hq
  by_cases hqa : q = a
  · subst hqa
    exact ⟨ea, h1, by rw [ha]; exact o1⟩
  · by_cases hqb : q = b
    · subst hqb
      exact ⟨eb, h2, by rw [hb]; exact o2⟩
    · obtain ⟨e, g1, g2⟩ := hT q hq
      refine ⟨e, by rw [he q hqa hqb]; exact g1, okE_mono (fun r hr => ?_) g2⟩
      obtain ⟨r1, g, r2, r3⟩ := hr
      exact ⟨r1, g, r2, by rw [he r (Ne.symm (tne0 ha hk1 r1)) (Ne.symm (tne0 hb hk2 r1))]; exact r3⟩
/-- what becomeRootAlone does -/
def rtP (t : Nat → ClassId) (h h' : hM) (P : Nat) : Prop := ∀ s o c nn sl, Nds t h P s o c nn sl → ∃ a, sl 0 = some a ∧ Nds t h' P s o 1 1 sl ∧ nod h' a = some (.int 0, .null)
theorem rtP_rd {t : Nat → ClassId} {h' : hM} {P s o a : Nat} {sl : Nat → Option Nat} (h1 : sl 0 = some a) (h2 : nod h' a = some (.int 0, .null)) : rdN h' sl 1 := fun i hi => by
  obtain rfl : i = 0 := by omega
  exact ⟨a, .null, h1, h2, Or.inl ⟨rfl, rfl⟩⟩
/-- what drop does -/
def drP (t : Nat → ClassId) (h h' : hM) (P x : Nat) : Prop := ∀ s o c nn sl, Nds t h P s o c nn sl → live sl c.toInt.toNat x → ∃ c' sl', Nds t h' P s o c' nn sl' ∧ c'.toInt = c.toInt - 1 ∧ (∀ a, live sl' c'.toInt.toNat a ↔ (live sl c.toInt.toNat a ∧ a ≠ x))
/-- what a parent's number is -/
def pnP (h : hM) (d : Nat) (r : Int32) : Prop := ∀ p, prt h d = some p → ∃ y, nod h p = some (.int r, y)
/-- the number of a node tells its place -/
theorem rdN_no {h : hM} {sl : Nat → Option Nat} {c i j a : Nat} {y : Value} (hR : rdN h sl c) (hc : c ≤ 30) (hi : i < c) (hj : j < 31) (ha : sl i = some a) (hn : nod h a = some (.int (nI j), y)) : i = j := by
  obtain ⟨a', pv, h1, h2, -⟩ := hR i hi
  obtain rfl : a' = a := Option.some.inj (h1.symm.trans ha)
  rw [h2] at hn
  simp only [Option.some.injEq, Prod.mk.injEq, Value.int.injEq] at hn
  have e1 := nI_toInt (n := i) (by omega)
  have e2 := nI_toInt (n := j) (by omega)
  rw [hn.1] at e1
  omega
/-! how many sectors have no row -/
def nulB (h : hM) (a : Nat) : Bool := match h a with
  | some (.inr (6, [.int _, .int _, .null])) => true
  | _ => false
theorem nulB_iff {h : hM} {a : Nat} : nulB h a = true ↔ nul h a := by
  constructor
  · intro hq
    unfold nulB at hq
    split at hq
    · rename_i c d he
      exact ⟨c, d, he⟩
    · cases hq
  · rintro ⟨c, d, he⟩
    simp [nulB, he]
def nl (L : List Nat) (h : hM) : Nat := L.countP (nulB h)
theorem nl_mono {τ : tM} {L : List Nat} {h h' : hM} (hL : ∀ a ∈ L, τ a = (13, 0)) (k : nlp τ h h') : nl L h' ≤ nl L h :=
  List.countP_mono_left (fun a ha hq => nulB_iff.mpr (k a (hL a ha) (nulB_iff.mp hq)))
theorem nl_take {τ : tM} {L : List Nat} {h h' : hM} {a : Nat} (hL : ∀ a ∈ L, τ a = (13, 0)) (k : nlp τ h h') (ha : a ∈ L) (h1 : nul h a) (h2 : ¬ nul h' a) : nl L h' + 1 ≤ nl L h := by
  induction L with
  | nil => cases ha
  | cons x L ih =>
    have e : ∀ g : hM, nl (x :: L) g = nl L g + (if nulB g x = true then 1 else 0) := fun g => List.countP_cons
    rw [e, e]
    have hLt := fun a ha => hL a (List.mem_cons_of_mem _ ha)
    have m := nl_mono hLt k
    have hx : nulB h' x = true → nulB h x = true := fun q => nulB_iff.mpr (k x (hL x List.mem_cons_self) (nulB_iff.mp q))
    rcases List.mem_cons.mp ha with rfl | ha
    · rw [if_pos (nulB_iff.mpr h1), if_neg (fun q => h2 (nulB_iff.mp q))]
      omega
    · have := ih hLt ha
      by_cases q : nulB h' x = true
      · rw [if_pos q, if_pos (hx q)]
        omega
      · rw [if_neg q]
        omega
theorem nlp_put3 {τ : tM} {h h1 : hM} {a q : Nat} {x y : Value} (k : nlp τ h h1) : nlp τ h (hu h1 a (.inr (6, [x, y, .ref q]))) := fun b hb hn => by
  refine k b hb ?_
  obtain ⟨c, d, h2⟩ := hn
  by_cases hba : b = a
  · subst hba
    rw [hu_s] at h2
    simp at h2
  · rw [hu_n hba] at h2
    exact ⟨c, d, h2⟩
theorem nul_ref {h : hM} {a q : Nat} {x y : Value} (ha : h a = some (.inr (6, [x, y, .ref q]))) : ¬ nul h a := by
  rintro ⟨c, d, h2⟩
  rw [ha] at h2
  simp at h2
theorem isB_new {τ : tM} {t : Nat → ClassId} {h : hM} {a q : Nat} {e : va_E} (ha : h a = none) (hB : isB τ t h q) : isB τ t (hu h a e) q := by
  obtain ⟨h3, g, h4, h5⟩ := hB
  exact ⟨h3, g, h4, by rw [hu_n (fun z => by rw [z, ha] at h5; cases h5)]; exact h5⟩
theorem fit0 : sb_Fit (fun _ => 0) := fun _ => rfl
/-! where a directory's bytes lie -/
def rngN (n : Nat) (h : hM) (a : Nat) : Prop := ∃ x p d w le sz sd iw ex sec np, h a = some (.inr (1, [x, p, .int d, w, le, .int sz, sd, iw, ex, .int sec, np])) ∧ (d = 1 → 0 ≤ sec.toInt ∧ 0 ≤ sz.toInt ∧ sec.toInt * 2048 + sz.toInt ≤ n * 2048)
theorem rng_set {n : Nat} {h h' : hM} {a : Nat} {x p w le sd iw ex np x' p' w' le' sd' iw' ex' np' : Value} {d sz sec : Int32} (hr : rngN n h a) (h1 : h a = some (.inr (1, [x, p, .int d, w, le, .int sz, sd, iw, ex, .int sec, np]))) (h2 : h' a = some (.inr (1, [x', p', .int d, w', le', .int sz, sd', iw', ex', .int sec, np']))) : rngN n h' a := by
  obtain ⟨x9, p9, d9, w9, le9, sz9, sd9, iw9, ex9, sec9, np9, g1, g2⟩ := hr
  rw [h1] at g1
  cases g1
  exact ⟨_, _, _, _, _, _, _, _, _, _, _, h2, g2⟩
theorem rng_same {n : Nat} {h h' : hM} {a : Nat} (hr : rngN n h a) (e : h' a = h a) : rngN n h' a := by
  obtain ⟨x9, p9, d9, w9, le9, sz9, sd9, iw9, ex9, sec9, np9, g1, g2⟩ := hr
  exact ⟨x9, p9, d9, w9, le9, sz9, sd9, iw9, ex9, sec9, np9, by rw [e]; exact g1, g2⟩
/-- the nodes that are being read -/
def RD (t : Nat → ClassId) (n : Nat) (h : hM) (P s o : Nat) (sl : Nat → Option Nat) (c : Nat) : Prop := Nds t h P s o (nI c) (nI c) sl ∧ 1 ≤ c ∧ c ≤ 30 ∧ rdN h sl c ∧ ∀ i a, i < c → sl i = some a → rngN n h a
theorem RD_same {τ : tM} {t : Nat → ClassId} {n : Nat} {h h' : hM} {P s o c : Nat} {sl : Nat → Option Nat} (hI : TI τ t n h) (hP : τ P = (7, 1)) (hR : RD t n h P s o sl c) (hk : ∀ b, τ b = (7, 1) ∨ τ b = (8, 1) ∨ τ b = (10, 1) → h' b = h b) : RD t n h' P s o sl c := by
  obtain ⟨⟨g1, g2⟩, g3, g4, g5, g6⟩ := hR
  obtain ⟨t1, -, -⟩ := TJ_nds hI hP g1
  obtain ⟨t3, -⟩ := TJ_slo hI t1 g2
  have nd : ∀ a, live sl c a → h' a = h a := fun a ⟨i, hi, ha⟩ => by
    obtain ⟨a', e1, e2⟩ := t3 i (by omega)
    obtain rfl : a' = a := Option.some.inj (e1.symm.trans ha)
    exact hk a' (Or.inr (Or.inr e2))
  exact ⟨⟨by rw [hk P (Or.inl hP)]; exact g1, by rw [hk s (Or.inr (Or.inl t1))]; exact g2⟩, g3, g4, rdN_same g5 (fun a ha => by simp [nod, nd a ha]), fun i a hi ha => rng_same (g6 i a hi ha) (nd a ⟨i, hi, ha⟩)⟩
theorem RD_kf {τ : tM} {t : Nat → ClassId} {n : Nat} {h h' : hM} {P s o c : Nat} {sl : Nat → Option Nat} {S : List (Nat × Nat)} {M : List Nat} (hI : TI τ t n h) (hP : τ P = (7, 1)) (hR : RD t n h P s o sl c) (hk : kf τ S M h h') (h7 : (7, 1) ∉ S) (h8 : (8, 1) ∉ S) (h10 : (10, 1) ∉ S) (hM : ∀ a ∈ M, τ a ≠ (7, 1) ∧ τ a ≠ (8, 1) ∧ τ a ≠ (10, 1)) : RD t n h' P s o sl c :=
  RD_same hI hP hR (fun b hb => by
    rcases hb with hb | hb | hb
    · exact hk b (by rw [hb]; exact Nat.succ_ne_zero _) (by rw [hb]; exact h7) (fun z => (hM b z).1 hb)
    · exact hk b (by rw [hb]; exact Nat.succ_ne_zero _) (by rw [hb]; exact h8) (fun z => (hM b z).2.1 hb)
    · exact hk b (by rw [hb]; exact Nat.succ_ne_zero _) (by rw [hb]; exact h10) (fun z => (hM b z).2.2 hb))
/-- the nodes that are being read, the last one not yet looked at -/
def RDb (t : Nat → ClassId) (n : Nat) (h : hM) (P s o : Nat) (sl : Nat → Option Nat) (c x : Nat) : Prop := Nds t h P s o (nI (c + 1)) (nI (c + 1)) sl ∧ c < 30 ∧ rdN h sl (c + 1) ∧ (∀ i a, i < c → sl i = some a → rngN n h a) ∧ sl c = some x
theorem RD_app {τ : tM} {t : Nat → ClassId} {n : Nat} {h h2 h3 : hM} {P s o c x e : Nat} {sl : Nat → Option Nat} {y : Value} {S3 : List (Nat × Nat)} (hI : TI τ t n h) (hP : τ P = (7, 1)) (hR : RD t n h P s o sl c) (hlt : (nI c).toInt < 30) (hsl : sl (nI c).toNatClampNeg = some x) (hP2 : h2 P = some (.inr (2, [.ref s, .ref o, .int (nI c + 1), .int (nI c + 1)]))) (hno : nod h2 x = some (.int (nI c), y)) (hfr : ∀ b, (τ b).1 ≠ 0 → b ≠ x → b ≠ P → h2 b = h b) (he : live sl c e) (hk : kf τ [] [x] h2 h3) (hb : ∀ z w, nod h2 x = some (z, w) → nod h3 x = some (z, .ref e)) : RDb t n h3 P s o sl c x := by
  obtain ⟨⟨g1, g2⟩, g3, g4, g5, g6⟩ := hR
  have hcI : (nI c).toInt = c := nI_toInt (by omega)
  obtain ⟨t1, -, -⟩ := TJ_nds hI hP g1
  obtain ⟨t3, t4⟩ := TJ_slo hI t1 g2
  rw [nI_clamp (by omega)] at hsl
  have hc : c < 30 := by omega
  obtain ⟨x', q1, q2⟩ := t3 c hc
  obtain rfl : x' = x := Option.some.inj (q1.symm.trans hsl)
  have nd : ∀ a, live sl c a → h3 a = h a := fun a ha => by
    have hne := live_ne t4 hc hsl ha
    obtain ⟨i, hi, hs⟩ := ha
    obtain ⟨a', e1, e2⟩ := t3 i (by omega)
    obtain rfl : a' = a := Option.some.inj (e1.symm.trans hs)
    have hk0 : (τ a').1 ≠ 0 := by rw [e2]; exact Nat.succ_ne_zero _
    rw [hk a' hk0 tn0 (nmc hne nm0), hfr a' hk0 hne (tne e2 hP (by decide))]
  have hPk : h3 P = h2 P := hk P (by rw [hP]; exact Nat.succ_ne_zero _) tn0 (nmc (tne hP q2 (by decide)) nm0)
  have hsk : h3 s = h s := by
    rw [hk s (by rw [t1]; exact Nat.succ_ne_zero _) tn0 (nmc (tne t1 q2 (by decide)) nm0), hfr s (by rw [t1]; exact Nat.succ_ne_zero _) (tne t1 q2 (by decide)) (tne t1 hP (by decide))]
  obtain ⟨j, hj, hje⟩ := he
  exact ⟨⟨by rw [hPk, hP2, nI_1], by rw [hsk]; exact g2⟩, hc, rdN_add g5 hsl (hb _ _ hno) (Or.inr ⟨j, e, hj, hje, rfl⟩) (fun a ha => by simp [nod, nd a ha]), fun i a hi ha => rng_same (g6 i a hi ha) (nd a ⟨i, hi, ha⟩), hsl⟩
theorem RDb_call {τ : tM} {t : Nat → ClassId} {n : Nat} {h h' : hM} {P s o c x : Nat} {sl : Nat → Option Nat} (hI : TI τ t n h) (hP : τ P = (7, 1)) (hx : τ x = (10, 1)) (hR : RDb t n h P s o sl c x) (hk : kf τ [] [x] h h') (hn : knp τ 1 h h') : RDb t n h' P s o sl c x := by
  obtain ⟨⟨g1, g2⟩, g4, g5, g6, g7⟩ := hR
  obtain ⟨t1, -, -⟩ := TJ_nds hI hP g1
  obtain ⟨t3, t4⟩ := TJ_slo hI t1 g2
  have at9 : ∀ a i, i < c + 1 → sl i = some a → τ a = (10, 1) := fun a i hi hs => by
    obtain ⟨a', e1, e2⟩ := t3 i (by omega)
    obtain rfl : a' = a := Option.some.inj (e1.symm.trans hs)
    exact e2
  refine ⟨⟨?_, ?_⟩, g4, rdN_same g5 (fun a ⟨i, hi, hs⟩ => hn a (at9 a i hi hs)), fun i a hi ha => rng_same (g6 i a hi ha) ?_, g7⟩
  · rw [hk P (by rw [hP]; exact Nat.succ_ne_zero _) tn0 (nmc (tne hP hx (by decide)) nm0)]
    exact g1
  · rw [hk s (by rw [t1]; exact Nat.succ_ne_zero _) tn0 (nmc (tne t1 hx (by decide)) nm0)]
    exact g2
  · have e2 := at9 a i (by omega) ha
    exact hk a (by rw [e2]; exact Nat.succ_ne_zero _) tn0 (nmc (live_ne t4 g4 g7 ⟨i, hi, ha⟩) nm0)
theorem RDb_RD {t : Nat → ClassId} {n : Nat} {h : hM} {P s o c x : Nat} {sl : Nat → Option Nat} (hR : RDb t n h P s o sl c x) (hx : rngN n h x) : RD t n h P s o sl (c + 1) := by
  obtain ⟨g1, g4, g5, g6, g7⟩ := hR
  refine ⟨g1, by omega, by omega, g5, fun i a hi ha => ?_⟩
  by_cases hic : i = c
  · subst hic
    obtain rfl : x = a := Option.some.inj (g7.symm.trans ha)
    exact hx
  · exact g6 i a (by omega) ha
theorem RDb_ch {t : Nat → ClassId} {n : Nat} {h : hM} {P s o c x : Nat} {sl : Nat → Option Nat} (hR : RDb t n h P s o sl c x) : ∃ k, Ch (prt h) k x := by
  obtain ⟨g1, g4, g5, g6, g7⟩ := hR
  exact ((rdN_Tr g5) x ⟨c, by omega, g7⟩).1
theorem rng_get {n : Nat} {h : hM} {a : Nat} {x p w le sd iw ex np : Value} {d sz sec : Int32} (hr : rngN n h a) (h1 : h a = some (.inr (1, [x, p, .int d, w, le, .int sz, sd, iw, ex, .int sec, np]))) (hd : d = 1) : 0 ≤ sec.toInt ∧ 0 ≤ sz.toInt ∧ sec.toInt * 2048 + sz.toInt ≤ n * 2048 := by
  obtain ⟨x9, p9, d9, w9, le9, sz9, sd9, iw9, ex9, sec9, np9, g1, g2⟩ := hr
  rw [h1] at g1
  cases g1
  exact g2 hd
theorem RD_live {t : Nat → ClassId} {n : Nat} {h : hM} {P s o c c' : Nat} {sl : Nat → Option Nat} {a : Nat} (hl : live sl c a) (hc : c ≤ c') : live sl c' a := by
  obtain ⟨i, hi, hs⟩ := hl
  exact ⟨i, by omega, hs⟩
/-- the nodes that were read, right or not: numbers and parents in order -/
def RN (t : Nat → ClassId) (h : hM) (P s o : Nat) (sl : Nat → Option Nat) (c : Nat) : Prop := Nds t h P s o (nI c) (nI c) sl ∧ 1 ≤ c ∧ c ≤ 30 ∧ rdN h sl c
theorem RD_RN {t : Nat → ClassId} {n : Nat} {h : hM} {P s o c : Nat} {sl : Nat → Option Nat} (hR : RD t n h P s o sl c) : RN t h P s o sl c := ⟨hR.1, hR.2.1, hR.2.2.1, hR.2.2.2.1⟩
theorem RDb_RN {t : Nat → ClassId} {n : Nat} {h : hM} {P s o c x : Nat} {sl : Nat → Option Nat} (hR : RDb t n h P s o sl c x) : RN t h P s o sl (c + 1) := ⟨hR.1, by omega, by have := hR.2.1; omega, hR.2.2.1⟩
theorem RN_same {τ : tM} {t : Nat → ClassId} {n : Nat} {h h' : hM} {P s o c : Nat} {sl : Nat → Option Nat} (hI : TI τ t n h) (hP : τ P = (7, 1)) (hR : RN t h P s o sl c) (h7 : ∀ b, τ b = (7, 1) ∨ τ b = (8, 1) → h' b = h b) (hn : knp τ 1 h h') : RN t h' P s o sl c := by
  obtain ⟨⟨g1, g2⟩, g3, g4, g5⟩ := hR
  obtain ⟨t1, -, -⟩ := TJ_nds hI hP g1
  obtain ⟨t3, -⟩ := TJ_slo hI t1 g2
  refine ⟨⟨by rw [h7 P (Or.inl hP)]; exact g1, by rw [h7 s (Or.inr t1)]; exact g2⟩, g3, g4, rdN_same g5 (fun a ⟨i, hi, ha⟩ => ?_)⟩
  obtain ⟨a', e1, e2⟩ := t3 i (by omega)
  obtain rfl : a' = a := Option.some.inj (e1.symm.trans ha)
  exact hn a' e2
theorem RN_kf {τ : tM} {t : Nat → ClassId} {n : Nat} {h h' : hM} {P s o c : Nat} {sl : Nat → Option Nat} {S : List (Nat × Nat)} {M : List Nat} (hI : TI τ t n h) (hP : τ P = (7, 1)) (hR : RN t h P s o sl c) (hk : kf τ S M h h') (h7 : (7, 1) ∉ S) (h8 : (8, 1) ∉ S) (hM : ∀ a ∈ M, τ a ≠ (7, 1) ∧ τ a ≠ (8, 1)) (hn : knp τ 1 h h') : RN t h' P s o sl c :=
  RN_same hI hP hR (fun b hb => by
    rcases hb with hb | hb
    · exact hk b (by rw [hb]; exact Nat.succ_ne_zero _) (by rw [hb]; exact h7) (fun z => (hM b z).1 hb)
    · exact hk b (by rw [hb]; exact Nat.succ_ne_zero _) (by rw [hb]; exact h8) (fun z => (hM b z).2 hb)) hn
/-- the root's record was read -/
theorem RN_RD1 {t : Nat → ClassId} {n : Nat} {h : hM} {P s o a : Nat} {sl : Nat → Option Nat} (hR : RN t h P s o sl 1) (ha : sl 0 = some a) (hr : rngN n h a) : RD t n h P s o sl 1 := ⟨hR.1, hR.2.1, hR.2.2.1, hR.2.2.2, fun i b hi hb => by
  obtain rfl : i = 0 := by omega
  obtain rfl : a = b := Option.some.inj (ha.symm.trans hb)
  exact hr⟩
def RNP (t : Nat → ClassId) (h : hM) (P : Nat) : Prop := ∃ s o c sl, RN t h P s o sl c
theorem nl_pos {L : List Nat} {h : hM} {a : Nat} (ha : a ∈ L) (h1 : nul h a) : 1 ≤ nl L h := List.countP_pos_iff.mpr ⟨a, ha, nulB_iff.mpr h1⟩

/-! MY OWN ROWS: counting -/
def cntP (P : Nat → Bool) : Nat → Nat
  | 0 => 0
  | m + 1 => cntP P m + (if P m then 1 else 0)
theorem cnt_le (P : Nat → Bool) (m : Nat) : cntP P m ≤ m := by
  induction m with
  | zero => exact Nat.le_refl _
  | succ m ih =>
    rw [cntP]
    split <;> omega
theorem cnt_mono {P Q : Nat → Bool} {m : Nat} (h : ∀ i, i < m → P i = true → Q i = true) : cntP P m ≤ cntP Q m := by
  induction m with
  | zero => exact Nat.le_refl _
  | succ m ih =>
    have h1 := ih (fun i hi => h i (by omega))
    have h2 := h m (by omega)
    rw [cntP, cntP]
    by_cases hp : P m = true
    · rw [if_pos hp, if_pos (h2 hp)]
      omega
    · rw [if_neg hp]
      omega
theorem cnt_lt {P Q : Nat → Bool} {m k : Nat} (h : ∀ i, i < m → P i = true → Q i = true) (hk : k < m) (h1 : Q k = true) (h2 : ¬ P k = true) : cntP P m + 1 ≤ cntP Q m := by
  induction m with
  | zero => omega
  | succ m ih =>
    rw [cntP, cntP]
    by_cases hkm : k = m
    · subst hkm
      have h3 := cnt_mono (P := P) (Q := Q) (m := k) (fun i hi => h i (by omega))
      rw [if_neg h2, if_pos h1]
      omega
    · have h3 := ih (fun i hi => h i (by omega)) (by omega)
      have h4 := h m (by omega)
      by_cases hp : P m = true
      · rw [if_pos hp, if_pos (h4 hp)]
        omega
      · rw [if_neg hp]
        omega
theorem cnt_eq {P Q : Nat → Bool} {m : Nat} (h : ∀ i, i < m → P i = Q i) : cntP P m = cntP Q m :=
  Nat.le_antisymm (cnt_mono (fun i hi hp => by rw [← h i hi]; exact hp)) (cnt_mono (fun i hi hp => by rw [h i hi]; exact hp))
/-- one taken out -/
theorem cnt_out {P Q : Nat → Bool} {m k : Nat} (hk : k < m) (h1 : P k = true) (h2 : Q k = false) (h : ∀ i, i < m → i ≠ k → P i = Q i) : cntP P m = cntP Q m + 1 := by
  induction m with
  | zero => omega
  | succ m ih =>
    rw [cntP, cntP]
    by_cases hkm : k = m
    · subst hkm
      rw [h1, h2, cnt_eq (P := P) (Q := Q) (fun i hi => h i (by omega) (by omega))]
      simp
    · have h3 := ih (by omega) (fun i hi hn => h i (by omega) hn)
      rw [h3, h m (by omega) (fun z => hkm z.symm)]
      omega
/-- apart from each other, and all counted: not more than are counted -/
theorem cnt_inj : ∀ (c : Nat) {P : Nat → Bool} {m : Nat} {f : Nat → Nat}, (∀ i, i < c → f i < m ∧ P (f i) = true) → (∀ i j, i < c → j < c → f i = f j → i = j) → c ≤ cntP P m := by
  intro c
  induction c with
  | zero => intros; exact Nat.zero_le _
  | succ c ih =>
    intro P m f hf hi
    obtain ⟨h1, h2⟩ := hf c (by omega)
    have h3 := cnt_out (P := P) (Q := fun i => if i = f c then false else P i) h1 h2 (by simp) (fun i _ hn => by simp [hn])
    have h4 := ih (P := fun i => if i = f c then false else P i) (m := m) (f := f) (fun i hi9 => by
      obtain ⟨g1, g2⟩ := hf i (by omega)
      refine ⟨g1, ?_⟩
      have : f i ≠ f c := fun z => by
        have := hi i c (by omega) (by omega) z
        omega
      simp [this, g2]) (fun i j hi9 hj9 => hi i j (by omega) (by omega))
    omega
theorem cnt_up {P : Nat → Bool} {m k : Nat} (h : m ≤ k) : cntP P m ≤ cntP P k := by
  induction k with
  | zero =>
    obtain rfl : m = 0 := by omega
    exact Nat.le_refl _
  | succ k ih =>
    by_cases hm : m = k + 1
    · subst hm
      exact Nat.le_refl _
    · have := ih (by omega)
      rw [cntP]
      omega

/-- what append does -/
def apnP (τ : tM) (t : Nat → ClassId) (h h' : hM) (P : Nat) (r : Option Nat) : Prop := ∀ s o c nn sl, Nds t h P s o c nn sl →
  (r = none ∧ h = h' ∧ 30 ≤ c.toInt) ∨ ∃ a, r = some a ∧ c.toInt < 30 ∧ sl c.toNatClampNeg = some a ∧ h' P = some (.inr (2, [.ref s, .ref o, .int (c + 1), .int (nn + 1)])) ∧ (∃ x y, nod h a = some (x, y) ∧ nod h' a = some (.int nn, y)) ∧ ∀ b, (τ b).1 ≠ 0 → b ≠ a → b ≠ P → h' b = h b
