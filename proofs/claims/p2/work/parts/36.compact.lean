set_option maxRecDepth 100000 in
theorem mw_559 : Cond.fieldLink R_Di 30 "WriteOnceDisc" "spare" "LWriteOnceDisc$Medium;" ∈ lw_g := lw_gin (List.mem_append_right _ (List.mem_of_getElem? (i := 240) rfl)) (by decide +kernel)
set_option maxRecDepth 100000 in
theorem mw_560 : Cond.classLink R_Di 48 R_Me ∈ lw_g := lw_gin (List.mem_append_right _ (List.mem_of_getElem? (i := 197) rfl)) (by decide +kernel)
set_option maxRecDepth 100000 in
theorem mw_561 : Cond.instantiable R_Me 2 ∈ lw_g := lw_gin (List.mem_append_right _ (List.mem_of_getElem? (i := 198) rfl)) (by decide +kernel)
set_option maxRecDepth 100000 in
theorem mw_562 : Cond.code y_Me_init b_Me_init 3 none ∈ lw_g := lw_gin (List.mem_append_right _ (List.mem_of_getElem? (i := 201) rfl)) (by decide +kernel)
set_option maxRecDepth 100000 in
theorem mw_563 : Cond.methodLink R_Di 50 y_Me_init ∈ lw_g := lw_gin (List.mem_append_right _ (List.mem_of_getElem? (i := 199) rfl)) (by decide +kernel)
set_option maxRecDepth 100000 in
theorem mw_564 : Cond.instanceMethod y_Me_init ∈ lw_g := lw_gin (List.mem_append_right _ (List.mem_of_getElem? (i := 200) rfl)) (by decide +kernel)
set_option maxRecDepth 100000 in
theorem mw_565 : Cond.code y_Me_erase b_Me_erase 2 none ∈ lw_g := lw_gin (List.mem_append_right _ (List.mem_of_getElem? (i := 750) rfl)) (by decide +kernel)
set_option maxRecDepth 100000 in
theorem mw_566 : Cond.methodLink R_Di 170 y_Me_erase ∈ lw_g := lw_gin (List.mem_append_right _ (List.mem_of_getElem? (i := 747) rfl)) (by decide +kernel)
set_option maxRecDepth 100000 in
theorem mw_567 : Cond.instanceMethod y_Me_erase ∈ lw_g := lw_gin (List.mem_append_right _ (List.mem_of_getElem? (i := 748) rfl)) (by decide +kernel)
set_option maxRecDepth 100000 in
theorem mw_568 : Cond.selects R_Me y_Me_erase y_Me_erase ∈ lw_g := lw_gin (List.mem_append_right _ (List.mem_of_getElem? (i := 749) rfl)) (by decide +kernel)
set_option maxRecDepth 100000 in
theorem mw_569 : Cond.code y_Wr_writeAllFiles b_Wr_writeAllFiles 7 (some .int) ∈ lw_g := lw_gin (List.mem_append_right _ (List.mem_of_getElem? (i := 758) rfl)) (by decide +kernel)
set_option maxRecDepth 100000 in
theorem mw_570 : Cond.methodLink R_Di 173 y_Wr_writeAllFiles ∈ lw_g := lw_gin (List.mem_append_right _ (List.mem_of_getElem? (i := 755) rfl)) (by decide +kernel)
set_option maxRecDepth 100000 in
theorem mw_571 : Cond.instanceMethod y_Wr_writeAllFiles ∈ lw_g := lw_gin (List.mem_append_right _ (List.mem_of_getElem? (i := 756) rfl)) (by decide +kernel)
set_option maxRecDepth 100000 in
theorem mw_572 : Cond.selects R_Wr y_Wr_writeAllFiles y_Wr_writeAllFiles ∈ lw_g := lw_gin (List.mem_append_right _ (List.mem_of_getElem? (i := 757) rfl)) (by decide +kernel)
set_option maxRecDepth 100000 in
theorem mw_573 : Cond.code y_Ns_settle b_Ns_settle 2 none ∈ lw_g := lw_gin (List.mem_append_right _ (List.mem_of_getElem? (i := 762) rfl)) (by decide +kernel)
set_option maxRecDepth 100000 in
theorem mw_574 : Cond.methodLink R_Di 177 y_Ns_settle ∈ lw_g := lw_gin (List.mem_append_right _ (List.mem_of_getElem? (i := 759) rfl)) (by decide +kernel)
set_option maxRecDepth 100000 in
theorem mw_575 : Cond.instanceMethod y_Ns_settle ∈ lw_g := lw_gin (List.mem_append_right _ (List.mem_of_getElem? (i := 760) rfl)) (by decide +kernel)
set_option maxRecDepth 100000 in
theorem mw_576 : Cond.selects R_Ns y_Ns_settle y_Ns_settle ∈ lw_g := lw_gin (List.mem_append_right _ (List.mem_of_getElem? (i := 761) rfl)) (by decide +kernel)
theorem d_Di_compact_0 : decode b_Di_compact 0 = .ok (.aload_n 0, 1) := by decide +kernel
theorem d_Di_compact_1 : decode b_Di_compact 1 = .ok (.getfield 10, 3) := by decide +kernel
theorem d_Di_compact_4 : decode b_Di_compact 4 = .ok (.getfield 60, 3) := by decide +kernel
theorem d_Di_compact_7 : decode b_Di_compact 7 = .ok (.getfield 69, 3) := by decide +kernel
theorem d_Di_compact_10 : decode b_Di_compact 10 = .ok (.ifCond .eq 6, 3) := by decide +kernel
theorem d_Di_compact_16 : decode b_Di_compact 16 = .ok (.aload_n 0, 1) := by decide +kernel
theorem d_Di_compact_17 : decode b_Di_compact 17 = .ok (.getfield 30, 3) := by decide +kernel
theorem d_Di_compact_20 : decode b_Di_compact 20 = .ok (.ifnonnull 22, 3) := by decide +kernel
theorem d_Di_compact_23 : decode b_Di_compact 23 = .ok (.aload_n 0, 1) := by decide +kernel
theorem d_Di_compact_24 : decode b_Di_compact 24 = .ok (.new 48, 3) := by decide +kernel
theorem d_Di_compact_27 : decode b_Di_compact 27 = .ok (.dup, 1) := by decide +kernel
theorem d_Di_compact_28 : decode b_Di_compact 28 = .ok (.aload_n 0, 1) := by decide +kernel
theorem d_Di_compact_29 : decode b_Di_compact 29 = .ok (.getfield 53, 3) := by decide +kernel
theorem d_Di_compact_32 : decode b_Di_compact 32 = .ok (.getfield 166, 3) := by decide +kernel
theorem d_Di_compact_35 : decode b_Di_compact 35 = .ok (.arraylength, 1) := by decide +kernel
theorem d_Di_compact_36 : decode b_Di_compact 36 = .ok (.invokespecial 50, 3) := by decide +kernel
theorem d_Di_compact_39 : decode b_Di_compact 39 = .ok (.putfield 30, 3) := by decide +kernel
theorem d_Di_compact_42 : decode b_Di_compact 42 = .ok (.aload_n 0, 1) := by decide +kernel
theorem d_Di_compact_43 : decode b_Di_compact 43 = .ok (.getfield 30, 3) := by decide +kernel
theorem d_Di_compact_46 : decode b_Di_compact 46 = .ok (.invokevirtual 170, 3) := by decide +kernel
theorem d_Di_compact_49 : decode b_Di_compact 49 = .ok (.aload_n 0, 1) := by decide +kernel
theorem d_Di_compact_50 : decode b_Di_compact 50 = .ok (.getfield 10, 3) := by decide +kernel
theorem d_Di_compact_53 : decode b_Di_compact 53 = .ok (.aload_n 0, 1) := by decide +kernel
theorem d_Di_compact_54 : decode b_Di_compact 54 = .ok (.getfield 26, 3) := by decide +kernel
theorem d_Di_compact_57 : decode b_Di_compact 57 = .ok (.aload_n 0, 1) := by decide +kernel
theorem d_Di_compact_58 : decode b_Di_compact 58 = .ok (.getfield 53, 3) := by decide +kernel
theorem d_Di_compact_61 : decode b_Di_compact 61 = .ok (.aload_n 0, 1) := by decide +kernel
theorem d_Di_compact_62 : decode b_Di_compact 62 = .ok (.getfield 30, 3) := by decide +kernel
theorem d_Di_compact_65 : decode b_Di_compact 65 = .ok (.invokevirtual 173, 3) := by decide +kernel
theorem d_Di_compact_68 : decode b_Di_compact 68 = .ok (.istore_n 1, 1) := by decide +kernel
theorem d_Di_compact_69 : decode b_Di_compact 69 = .ok (.iload_n 1, 1) := by decide +kernel
theorem d_Di_compact_70 : decode b_Di_compact 70 = .ok (.iconst 1, 1) := by decide +kernel
theorem d_Di_compact_71 : decode b_Di_compact 71 = .ok (.if_icmp .ne 20, 3) := by decide +kernel
theorem d_Di_compact_91 : decode b_Di_compact 91 = .ok (.iload_n 1, 1) := by decide +kernel
theorem d_Di_compact_92 : decode b_Di_compact 92 = .ok (.iconst 1, 1) := by decide +kernel
theorem d_Di_compact_93 : decode b_Di_compact 93 = .ok (.if_icmp .eq 5, 3) := by decide +kernel
theorem d_Di_compact_98 : decode b_Di_compact 98 = .ok (.aload_n 0, 1) := by decide +kernel
theorem d_Di_compact_99 : decode b_Di_compact 99 = .ok (.getfield 53, 3) := by decide +kernel
theorem d_Di_compact_102 : decode b_Di_compact 102 = .ok (.astore_n 2, 1) := by decide +kernel
theorem d_Di_compact_103 : decode b_Di_compact 103 = .ok (.aload_n 0, 1) := by decide +kernel
theorem d_Di_compact_104 : decode b_Di_compact 104 = .ok (.aload_n 0, 1) := by decide +kernel
theorem d_Di_compact_105 : decode b_Di_compact 105 = .ok (.getfield 30, 3) := by decide +kernel
theorem d_Di_compact_108 : decode b_Di_compact 108 = .ok (.putfield 53, 3) := by decide +kernel
theorem d_Di_compact_111 : decode b_Di_compact 111 = .ok (.aload_n 0, 1) := by decide +kernel
theorem d_Di_compact_112 : decode b_Di_compact 112 = .ok (.aload_n 2, 1) := by decide +kernel
theorem d_Di_compact_113 : decode b_Di_compact 113 = .ok (.putfield 30, 3) := by decide +kernel
theorem d_Di_compact_116 : decode b_Di_compact 116 = .ok (.aload_n 0, 1) := by decide +kernel
theorem d_Di_compact_117 : decode b_Di_compact 117 = .ok (.getfield 26, 3) := by decide +kernel
theorem d_Di_compact_120 : decode b_Di_compact 120 = .ok (.invokevirtual 177, 3) := by decide +kernel
theorem d_Di_compact_123 : decode b_Di_compact 123 = .ok (.aload_n 0, 1) := by decide +kernel
theorem d_Di_compact_124 : decode b_Di_compact 124 = .ok (.iconst 0, 1) := by decide +kernel
theorem d_Di_compact_125 : decode b_Di_compact 125 = .ok (.putfield 38, 3) := by decide +kernel
theorem d_Di_compact_128 : decode b_Di_compact 128 = .ok (.aload_n 0, 1) := by decide +kernel
theorem d_Di_compact_129 : decode b_Di_compact 129 = .ok (.iconst 1, 1) := by decide +kernel
theorem d_Di_compact_130 : decode b_Di_compact 130 = .ok (.putfield 34, 3) := by decide +kernel
theorem d_Di_compact_133 : decode b_Di_compact 133 = .ok (.aload_n 0, 1) := by decide +kernel
theorem d_Di_compact_134 : decode b_Di_compact 134 = .ok (.getfield 34, 3) := by decide +kernel
theorem d_Di_compact_137 : decode b_Di_compact 137 = .ok (.ireturn, 1) := by decide +kernel
theorem d_Di_compact_96 : decode b_Di_compact 96 = .ok (.iload_n 1, 1) := by decide +kernel
theorem d_Di_compact_97 : decode b_Di_compact 97 = .ok (.ireturn, 1) := by decide +kernel
theorem d_Di_compact_74 : decode b_Di_compact 74 = .ok (.aload_n 0, 1) := by decide +kernel
theorem d_Di_compact_75 : decode b_Di_compact 75 = .ok (.getfield 10, 3) := by decide +kernel
theorem d_Di_compact_78 : decode b_Di_compact 78 = .ok (.aload_n 0, 1) := by decide +kernel
theorem d_Di_compact_79 : decode b_Di_compact 79 = .ok (.getfield 26, 3) := by decide +kernel
theorem d_Di_compact_82 : decode b_Di_compact 82 = .ok (.aload_n 0, 1) := by decide +kernel
theorem d_Di_compact_83 : decode b_Di_compact 83 = .ok (.getfield 30, 3) := by decide +kernel
theorem d_Di_compact_86 : decode b_Di_compact 86 = .ok (.iconst 1, 1) := by decide +kernel
theorem d_Di_compact_87 : decode b_Di_compact 87 = .ok (.invokevirtual 135, 3) := by decide +kernel
theorem d_Di_compact_90 : decode b_Di_compact 90 = .ok (.istore_n 1, 1) := by decide +kernel
theorem d_Di_compact_13 : decode b_Di_compact 13 = .ok (.bipush (-4), 2) := by decide +kernel
theorem d_Di_compact_15 : decode b_Di_compact 15 = .ok (.ireturn, 1) := by decide +kernel
/-! MY OWN ROWS: more tags -/
theorem tx_r {τ τ' : tM} (hx : ∀ a, (τ a).1 ≠ 0 → τ' a = τ a) {v k f : Nat} (h : τ v = (k + 1, f)) : τ' v = (k + 1, f) := by rw [hx v (by rw [h]; exact Nat.succ_ne_zero _)]; exact h
theorem okE_ext {τ τ' : tM} {t : Nat → ClassId} {n : Nat} {h : hM} (hx : ∀ a, (τ a).1 ≠ 0 → τ' a = τ a) (hB : ∀ r, isB τ t h r → isB τ' t h r) {x : Nat × Nat} {e : va_E} (ho : okE τ t n h x e) : okE τ' t n h x e := by
  obtain ⟨k, f⟩ := x
  unfold okE at ho ⊢
  split at ho
  case h_1 =>
    obtain ⟨v0, v1, v2, v3, v4, v5, v6, v7, v8, he, c0, c1, c2, c3, c4, c6, c7, c8⟩ := ho
    exact ⟨v0, v1, v2, v3, v4, v5, v6, v7, v8, he, tx_r hx c0, tx_r hx c1, tx_r hx c2, tx_r hx c3, fun q hq => tx_r hx (c4 q hq), c6, tx_r hx c7, tx_r hx c8⟩
  case h_2 =>
    obtain ⟨v0, v1, he, c0, c1⟩ := ho
    exact ⟨v0, v1, he, tx_r hx c0, tx_r hx c1⟩
  case h_3 =>
    obtain ⟨v0, v1, v2, he, c1⟩ := ho
    exact ⟨v0, v1, v2, he, c1⟩
  case h_4 =>
    obtain ⟨v0, he, c0⟩ := ho
    exact ⟨v0, he, tx_r hx c0⟩
  case h_5 => exact ho
  case h_6 =>
    obtain ⟨v0, v1, v2, v3, v4, he, c0, c1, c2, c3⟩ := ho
    exact ⟨v0, v1, v2, v3, v4, he, tx_r hx c0, tx_r hx c1, fun q hq => tx_r hx (c2 q hq), fun q hq => tx_r hx (c3 q hq)⟩
  case h_7 =>
    obtain ⟨v0, v1, v2, v3, he, c0, c1, c2⟩ := ho
    exact ⟨v0, v1, v2, v3, he, tx_r hx c0, tx_r hx c1, c2⟩
  case h_8 =>
    obtain ⟨g, he, c0, c1⟩ := ho
    exact ⟨g, he, fun i hi => by
      obtain ⟨a, h1, h2⟩ := c0 i hi
      exact ⟨a, h1, tx_r hx h2⟩, c1⟩
  case h_9 =>
    obtain ⟨g, he, c0⟩ := ho
    exact ⟨g, he, fun i hi => by
      obtain ⟨a, h1, h2⟩ := c0 i hi
      exact ⟨a, h1, tx_r hx h2⟩⟩
  case h_10 =>
    obtain ⟨v0, v1, v2, v3, v4, v5, v6, v7, v8, v9, v10, he, c1, c2, c4, c7⟩ := ho
    exact ⟨v0, v1, v2, v3, v4, v5, v6, v7, v8, v9, v10, he, fun q hq => tx_r hx (c1 q hq), c2, c4, c7⟩
  case h_11 =>
    obtain ⟨v0, v1, he, c0⟩ := ho
    exact ⟨v0, v1, he, tx_r hx c0⟩
  case h_12 =>
    obtain ⟨g, he, c0⟩ := ho
    exact ⟨g, he, fun i hi => by
      obtain ⟨a, h1, h2⟩ := c0 i hi
      exact ⟨a, h1, tx_r hx h2⟩⟩
  case h_13 =>
    obtain ⟨v0, v1, v2, he, c1, c2⟩ := ho
    exact ⟨v0, v1, v2, he, c1, fun q hq => hB q (c2 q hq)⟩
  all_goals first
    | exact ho
    | exact ho.elim
theorem TI_ext {τ τ' : tM} {t : Nat → ClassId} {n : Nat} {h : hM} (hT : TI τ t n h) (hx : ∀ a, (τ a).1 ≠ 0 → τ' a = τ a) (hB : ∀ r, isB τ t h r → (τ' r).1 = 0) (hN : ∀ a, (τ a).1 = 0 → (τ' a).1 ≠ 0 → ∃ e, h a = some e ∧ okE τ' t n h (τ' a) e) : TI τ' t n h := fun a ha => by
  by_cases h0 : (τ a).1 = 0
  · exact hN a h0 ha
  · obtain ⟨e, h1, h2⟩ := hT a h0
    exact ⟨e, h1, by rw [hx a h0]; exact okE_ext hx (fun r hr => ⟨hB r hr, hr.2⟩) h2⟩
theorem TI_kpQ {τ : tM} {t : Nat → ClassId} {n : Nat} {h h' : hM} {q : Nat} {x : Nat × List Value} (hT : TI τ t n h) (hk : kp [q] h h') (hq : h q = some (.inr x)) (h0 : (τ q).1 = 0) : TI τ t n h' := fun a ha => by
  obtain ⟨e, h1, h2⟩ := hT a ha
  refine ⟨e, hk a e h1 (nmc (fun z => ha (by rw [z]; exact h0)) nm0), okE_mono (fun r hr => ?_) h2⟩
  obtain ⟨r0, g, r1, r2⟩ := hr
  exact ⟨r0, g, r1, hk r _ r2 (nmc (fun z => by rw [z, hq] at r2; cases r2) nm0)⟩
theorem kf_kpQ {τ : tM} {t : Nat → ClassId} {n : Nat} {h h' : hM} {q : Nat} (hT : TI τ t n h) (hk : kp [q] h h') (h0 : (τ q).1 = 0) : kf τ [] [] h h' := fun b hb _ _ => by
  obtain ⟨e, h1, -⟩ := hT b hb
  rw [hk b e h1 (nmc (fun z => hb (by rw [z]; exact h0)) nm0), h1]
theorem kf_ext {τ τ' : tM} {S : List (Nat × Nat)} {M : List Nat} {h h' : hM} (hk : kf τ S M h h') (hx : ∀ a, τ' a = τ a ∨ τ' a ∈ S) : kf τ' S M h h' := fun b hb hn hm => by
  rcases hx b with e | e
  · exact hk b (by rw [← e]; exact hb) (by rw [← e]; exact hn) hm
  · exact absurd e hn
/-- the tags with those of a new medium -/
noncomputable def txM (τ : tM) (q sa : Nat) (fa : Nat → Option Nat) (n : Nat) : tM := fun a => if a = q then (11, 0) else if a = sa then (12, 0) else @ite (Nat × Nat) (∃ i, i < n ∧ fa i = some a) (Classical.propDecidable _) (13, 0) (τ a)
theorem medX {τ : tM} {t : Nat → ClassId} {n : Nat} {h : hM} {q sa : Nat} {fa : Nat → Option Nat} {fr : Int32} (hT : TI τ t n h) (hq : h q = some (.inr (0, [.ref sa, .int fr]))) (hsa : h sa = some (.inl (t 5, n, .inr (.inr (.inr (.inr fa)))))) (hrow : ∀ j, j < n → ∃ a, fa j = some a ∧ h a = some (.inr (6, [.int 0, .int 0, .null])) ∧ (τ a).1 = 0) (hq0 : (τ q).1 = 0) (hsa0 : (τ sa).1 = 0) :
    ∃ τ' : tM, TI τ' t n h ∧ (∀ a, (τ a).1 ≠ 0 → τ' a = τ a) ∧ τ' q = (11, 0) ∧ (∀ a, τ' a = (13, 0) ↔ (τ a = (13, 0) ∨ ∃ j, j < n ∧ fa j = some a)) ∧ ∀ a, τ' a = τ a ∨ τ' a = (11, 0) ∨ τ' a = (12, 0) ∨ τ' a = (13, 0) := by
  have hqs : q ≠ sa := fun z => by rw [z, hsa] at hq; cases hq
  have sec : ∀ a, (∃ j, j < n ∧ fa j = some a) → a ≠ q ∧ a ≠ sa ∧ (τ a).1 = 0 ∧ h a = some (.inr (6, [.int 0, .int 0, .null])) := fun a ⟨j, hj, ha⟩ => by
    obtain ⟨a', h1, h2, h3⟩ := hrow j hj
    obtain rfl : a' = a := Option.some.inj (h1.symm.trans ha)
    exact ⟨fun z => (by rw [z, hq] at h2; cases h2), fun z => (by rw [z, hsa] at h2; cases h2), h3, h2⟩
  have eq : txM τ q sa fa n q = (11, 0) := if_pos rfl
  have es : txM τ q sa fa n sa = (12, 0) := by unfold txM; rw [if_neg (Ne.symm hqs), if_pos rfl]
  have ec : ∀ a, (∃ j, j < n ∧ fa j = some a) → txM τ q sa fa n a = (13, 0) := fun a ha => by
    obtain ⟨h1, h2, -⟩ := sec a ha
    unfold txM; rw [if_neg h1, if_neg h2, if_pos ha]
  have eo : ∀ a, a ≠ q → a ≠ sa → ¬ (∃ j, j < n ∧ fa j = some a) → txM τ q sa fa n a = τ a := fun a h1 h2 h3 => by
    unfold txM; rw [if_neg h1, if_neg h2, if_neg h3]
  have hx : ∀ a, (τ a).1 ≠ 0 → txM τ q sa fa n a = τ a := fun a ha => eo a (fun z => ha (by rw [z]; exact hq0)) (fun z => ha (by rw [z]; exact hsa0)) (fun z => ha (sec a z).2.2.1)
  refine ⟨txM τ q sa fa n, TI_ext hT hx ?_ ?_, hx, eq, ?_, ?_⟩
  · rintro r ⟨r0, g, r1, r2⟩
    rw [eo r (fun z => by rw [z, hq] at r2; cases r2) (fun z => by rw [z, hsa] at r2; simp at r2) (fun z => by rw [(sec r z).2.2.2] at r2; cases r2)]
    exact r0
  · intro a ha ha'
    by_cases h1 : a = q
    · subst h1
      exact ⟨_, hq, by rw [eq]; exact ⟨sa, fr, rfl, es⟩⟩
    · by_cases h2 : a = sa
      · subst h2
        refine ⟨_, hsa, ?_⟩
        rw [es]
        refine ⟨fa, rfl, fun i hi => ?_⟩
        obtain ⟨b, b1, -, -⟩ := hrow i hi
        exact ⟨b, b1, ec b ⟨i, hi, b1⟩⟩
      · by_cases h3 : ∃ j, j < n ∧ fa j = some a
        · refine ⟨_, (sec a h3).2.2.2, ?_⟩
          rw [ec a h3]
          exact ⟨0, 0, none, rfl, zb0, fun _ h9 => (by cases h9)⟩
        · rw [eo a h1 h2 h3] at ha'
          exact absurd ha ha'
  · intro a
    constructor
    · intro ha
      by_cases h3 : ∃ j, j < n ∧ fa j = some a
      · exact Or.inr h3
      · by_cases h1 : a = q
        · rw [h1, eq] at ha
          cases ha
        · by_cases h2 : a = sa
          · rw [h2, es] at ha
            cases ha
          · rw [eo a h1 h2 h3] at ha
            exact Or.inl ha
    · rintro (ha | ha)
      · rw [hx a (by rw [ha]; exact Nat.succ_ne_zero _)]
        exact ha
      · exact ec a ha
  · intro a
    by_cases h1 : a = q
    · rw [h1, eq]; exact Or.inr (Or.inl rfl)
    · by_cases h2 : a = sa
      · rw [h2, es]; exact Or.inr (Or.inr (Or.inl rfl))
      · by_cases h3 : ∃ j, j < n ∧ fa j = some a
        · rw [ec a h3]; exact Or.inr (Or.inr (Or.inr rfl))
        · exact Or.inl (eo a h1 h2 h3)
def secL (fa : Nat → Option Nat) (n : Nat) : List Nat := (List.range n).map (fun i => (fa i).getD 0)
theorem secL_mem {fa : Nat → Option Nat} {n a : Nat} (hf : ∀ j, j < n → ∃ a, fa j = some a) : a ∈ secL fa n ↔ ∃ j, j < n ∧ fa j = some a := by
  unfold secL
  rw [List.mem_map]
  constructor
  · rintro ⟨i, hi, rfl⟩
    obtain ⟨b, hb⟩ := hf i (List.mem_range.mp hi)
    exact ⟨i, List.mem_range.mp hi, by rw [hb]; rfl⟩
  · rintro ⟨j, hj, ha⟩
    exact ⟨j, List.mem_range.mpr hj, by rw [ha]; rfl⟩
theorem nl_app {L : List Nat} {fa : Nat → Option Nat} {n : Nat} {h : hM} : nl (L ++ secL fa n) h ≤ nl L h + n := by
  unfold nl
  rw [List.countP_append]
  have h1 : List.countP (nulB h) (secL fa n) ≤ (secL fa n).length := List.countP_le_length
  have h2 : (secL fa n).length = n := by simp [secL]
  omega

set_option maxHeartbeats 4000000 in
set_option maxRecDepth 100000 in
theorem x_compact (l : Launch) (D : va_G) (t : Nat → ClassId) (G : hG) (ak av : Nat → Nat) (h : hM) (τ : tM) (n : Nat) (x9 : Nat) (hn : n ≤ 200) (hT : TI τ t n h) (T_x9 : τ x9 = (1, 0)) (L : List Nat) (B : Nat) (hL : ∀ a ∈ L, τ a = (13, 0)) (hL2 : ∀ a, τ a = (13, 0) → a ∈ L) (hB : nl L h + spz h x9 ≤ B) (hU : ∀ a b, τ a = (7, 0) → τ b = (7, 0) → a = b) (hTr : ∀ P, τ P = (7, 0) → TrP t h P) : MetD l y_Di_compact (.code y_Di_compact b_Di_compact 3 (some .int) :: lw_g) { frames := 10, cells := B, slots := 2048 * B, locals := 234 } (hP (kE D t G ak av) D vwCl G h [.ref x9]) (fun kk nn => hQi D vwCl G (fun r h' => nn = 2048 * kk ∧ ∃ (τ' : tM) (L' : List Nat), (∀ a, (τ a).1 ≠ 0 → τ' a = τ a) ∧ τ' x9 = (1, 0) ∧ TI τ' t n h' ∧ (∀ a b, τ' a = (7, 0) → τ' b = (7, 0) → a = b) ∧ (∀ P, τ' P = (7, 0) → TrP t h' P) ∧ (∀ a ∈ L', τ' a = (13, 0)) ∧ (∀ a, τ' a = (13, 0) → a ∈ L') ∧ kk + (nl L' h' + spz h' x9) ≤ nl L h + spz h x9)) G.P := by
  refine MetD.ofW (cc := b_Di_compact) (maxL := 3) (ret := (some .int)) (by decide) rfl ?_
  intro p e s m args below meth c s₁ Bd hml hv
  obtain ⟨ha, hE, hH⟩ := hv
  have hx := Bd.exec
  have hb := Bd.bytes
  have hr := Bd.returns
  have hts : ∀ w ∈ lw_g, w.before args s = true := fun w hw => atoms_spec (ws := (.code y_Di_compact b_Di_compact 3 (some .int) :: lw_g)) Bd.pre w (List.mem_cons_of_mem _ hw)
  have hown : s.vm.findClass R_Di = some m.cls := findClass_of_methodNamed Bd.named
  have hlocks := Bd.notSynchronized
  have hK := hE.1
  have hH0 := hH
  have hLo : hLc G.P [] := hLc_nil
  have hz : s.heap.size ≤ s.heap.size := Nat.le_refl _
  have hl := lv_entry [.ref x9] (n := 3) (Nat.le_of_ble_eq_true rfl)
  rw [show entryFrame m args 3 = F0 m 0 ((lg_sl [.ref x9] ++ List.replicate (3 - (lg_sl [.ref x9]).length) Slot.unset).toArray) [] from (by rw [ha]; exact lg_entry_eq m [.ref x9] 3)]
  generalize (lg_sl [.ref x9] ++ List.replicate (3 - (lg_sl [.ref x9]).length) Slot.unset).toArray = ls at hl ⊢
  have hl : lv_has ls 3 [(0, .ref x9)] := hl
  have hkf : kf τ [(13, 0), (12, 0), (11, 0), (3, 0), (5, 0), (10, 0), (9, 0), (1, 0)] [] h h := kf_rf
  obtain ⟨v_1, v_3, v_5, v_7, v_9, v_11, v_12, v_14, v_16, F_x9, c_2, c_4, c_6, c_8, c_10, c_13, c_15, c_17⟩ := TI_disc hT T_x9
  have hsz : spz h x9 = if v_9 = none then 402 else 0 := spz_of F_x9
  obtain ⟨bs9, hbs⟩ : ∃ z, z = nl L h + spz h x9 := ⟨_, rfl⟩
  have hLB := hL
  have htx : ∀ a, (τ a).1 ≠ 0 → τ a = τ a := fun _ _ => rfl
  have hnl : 0 + nl L h ≤ bs9 := by rw [hbs]; omega
  have hBb : bs9 ≤ B := by rw [hbs]; exact hB
  refine lv_aload_n hx hb d_Di_compact_0 rfl (lv_at hl 0 rfl) ?_
  refine hm_get (ci := 8) (v := .ref v_1) (C := R_Di) (T := F_Di) (N := 9) hx hb hts ig_Di hown hK hH F_x9 rfl 0 (by decide) (hts _ mw_430) (fun _ h9 => h9) rfl d_Di_compact_1 ?_
  obtain ⟨v_18, v_20, F_v_1, c_19, c_21⟩ := TI_wri hT c_2
  refine hm_get (ci := 7) (v := .ref v_18) (C := R_Wr) (T := F_Wr) (N := 2) hx hb hts ig_Wr hown hK hH F_v_1 rfl 0 (by decide) (hts _ mw_431) (fun _ h9 => h9) rfl d_Di_compact_4 ?_
  obtain ⟨v_22, v_23, v_25, F_v_18, c_24⟩ := TI_pow hT c_19
  refine hm_get (ci := 4) (v := .int v_23) (C := R_Po) (T := F_Po) (N := 3) hx hb hts ig_Po hown hK hH F_v_18 rfl 1 (by decide) (hts _ mw_442) (fun _ h9 => h9) rfl d_Di_compact_7 ?_
  refine lv_if_eq (tgt := 16) hx hb d_Di_compact_10 (by decide) (fun hc_26 => ?_) (fun hc_26 => ?_)
  · skip
    have ic_27 : v_23.toInt = 0 := congrArg Int32.toInt hc_26
    refine lv_aload_n hx hb d_Di_compact_16 rfl (lv_at hl 0 rfl) ?_
    refine hm_get (ci := 8) (v := va_rf v_9) (C := R_Di) (T := F_Di) (N := 9) hx hb hts ig_Di hown hK hH F_x9 rfl 4 (by decide) (hts _ mw_559) (fun _ h9 => h9) rfl d_Di_compact_17 ?_
    rcases v_9 with _ | q_28
    · skip
      refine lv_ifnonnullN hx hb d_Di_compact_20 ?_
      refine lv_aload_n hx hb d_Di_compact_23 rfl (lv_at hl 0 rfl) ?_
      rw [if_pos rfl] at hsz
      have hnl : 402 + nl L h ≤ bs9 := by rw [hbs, hsz]; omega
      refine hm_new (ci := 0) (fs := [.null, .int 0]) (C := R_Me) (T := F_Me) (N := 2) hx hb hts ig_Me t_Me tk_Me hown (hts _ mw_560) (hts _ mw_561) (hts _ mw_32) hK hH rfl df_Me (show 0 + 1 ≤ B by omega) (show 0 + 2 ≤ 2048 * B by omega) d_Di_compact_24 (fun q9 H_30 hq_31 hn9 hH z_32 => ?_)
      have hz : s.heap.size ≤ H_30.size := by rw [z_32]; exact Nat.le_succ_of_le hz
      obtain ⟨h_33, e_34⟩ : ∃ z, z = hu h q9 (.inr (0, [.null, .int 0])) := ⟨_, rfl⟩
      have hH : hm D vwCl G h_33 H_30 := by rw [e_34]; exact hH
      have hu0 : (τ q9).1 = 0 := TI_tag0 hT hn9
      have F_x9 : h_33 x9 = some (.inr (8, [.ref v_1, .ref v_3, .ref v_5, .ref v_7, .null, .int v_11, .int v_12, .ref v_14, .ref v_16])) := by rw [e_34, hu_n (h_nf hn9 F_x9)]; exact F_x9
      have F_v_1 : h_33 v_1 = some (.inr (7, [.ref v_18, .ref v_20])) := by rw [e_34, hu_n (h_nf hn9 F_v_1)]; exact F_v_1
      have F_v_18 : h_33 v_18 = some (.inr (4, [.int v_22, .int v_23, .int v_25])) := by rw [e_34, hu_n (h_nf hn9 F_v_18)]; exact F_v_18
      have F_q9 : h_33 q9 = some (.inr (0, [.null, .int 0])) := by rw [e_34]; exact hu_s _ _ _
      have hTn : TI τ t n h_33 := by rw [e_34]; exact TI_new hT hn9
      have hkn : kf τ [] [] h h_33 := by rw [e_34]; exact kf_putU kf_rf hu0
      have hT := hTn
      have hkf : kf τ [(13, 0), (12, 0), (11, 0), (3, 0), (5, 0), (10, 0), (9, 0), (1, 0)] [] h h_33 := kf_tr hkf hkn (List.forall_mem_nil _) (List.forall_mem_nil _)
      have hTr : ∀ P, τ P = (7, 0) → TrP t h_33 P := TrP_kf hT hkn tn0 tn0 (List.forall_mem_nil _) (knp_kf knp_rf hkn tn0 (List.forall_mem_nil _)) hTr
      have hnl : 402 + nl L h_33 ≤ bs9 := Nat.le_trans (Nat.add_le_add_left (nl_mono hL (nlp_kf nlp_rf hkn tn0 (List.forall_mem_nil _))) _) hnl
      refine lv_dup hx hb d_Di_compact_27 rfl ?_
      refine lv_aload_n hx hb d_Di_compact_28 rfl (lv_at hl 0 rfl) ?_
      refine hm_get (ci := 8) (v := .ref v_7) (C := R_Di) (T := F_Di) (N := 9) hx hb hts ig_Di hown hK hH F_x9 rfl 3 (by decide) (hts _ mw_425) (fun _ h9 => h9) rfl d_Di_compact_29 ?_
      obtain ⟨v_35, v_37, F_v_7, c_36⟩ := TI_med hT c_8
      refine hm_get (ci := 0) (v := .ref v_35) (C := R_Me) (T := F_Me) (N := 2) hx hb hts ig_Me hown hK hH F_v_7 rfl 0 (by decide) (hts _ mw_434) (fun _ h9 => h9) rfl d_Di_compact_32 ?_
      obtain ⟨g_38, F_v_35, c_39⟩ := TI_secs hT c_36
      have iln_40 : (nI n).toInt = (n : Nat) := nI_toInt (by omega)
      refine hm_alen (v := nI n) hx hb hK hH 5 F_v_35 (ty := (.object "WriteOnceDisc$Sector")) rfl rfl d_Di_compact_35 ?_
      refine hm_callv (va_runI (As := [.int (nI n)]) (b := q9) (rest := [.ref q9, .ref x9]) ⟨hx, hb, hml, hown, hts⟩ (d_Medium_init l D t G ak av h_33 q9 n F_q9 hn) ⟨cw9B 1 hts mw_562 mw_563 mw_32 rfl rfl (by decide +kernel) ⟨Nat.le_of_ble_eq_true rfl, Nat.le_of_ble_eq_true rfl⟩, rfl, hts _ mw_564⟩ (hP_S kE_ok hE hH) rfl rfl hl.1 rfl (lv_room (Nat.le_of_ble_eq_true rfl)) d_Di_compact_36 ⟨show (0 + 1) + 201 ≤ B by omega, show (0 + 2) + 800 ≤ 2048 * B by omega⟩) hLo (fun h_41 H_42 locs hp_44 hH z_43 hLo => ?_)
      have hz : s.heap.size ≤ H_42.size := Nat.le_trans hz z_43
      obtain ⟨hk9, sa9, fa9, hq9, hsa9, hsn9, hrow9⟩ := hp_44
      have hkn : kf τ [] [] h_33 h_41 := kf_kpQ hT hk9 hu0
      have hsn0 : (τ sa9).1 = 0 := TI_tag0 hT hsn9
      have hrw9 : ∀ j, j < n → ∃ a, fa9 j = some a ∧ h_41 a = some (.inr (6, [.int 0, .int 0, .null])) ∧ (τ a).1 = 0 := fun j hj => by
        obtain ⟨a, h1, h2, h3⟩ := hrow9 j hj
        exact ⟨a, h1, h2, TI_tag0 hT h3⟩
      have hT : TI τ t n h_41 := TI_kpQ hT hk9 F_q9 hu0
      have F_x9 : h_41 x9 = some (.inr (8, [.ref v_1, .ref v_3, .ref v_5, .ref v_7, .null, .int v_11, .int v_12, .ref v_14, .ref v_16])) := kf_at hkn T_x9 (by decide) tn0 nm0 F_x9
      have hkf : kf τ [(13, 0), (12, 0), (11, 0), (3, 0), (5, 0), (10, 0), (9, 0), (1, 0)] [] h h_41 := kf_tr hkf hkn (List.forall_mem_nil _) (List.forall_mem_nil _)
      have hTr : ∀ P, τ P = (7, 0) → TrP t h_41 P := TrP_kf hT hkn tn0 tn0 (List.forall_mem_nil _) (knp_kf knp_rf hkn tn0 (List.forall_mem_nil _)) hTr
      have hnl : 402 + nl L h_41 ≤ bs9 := Nat.le_trans (Nat.add_le_add_left (nl_mono hL (nlp_kf nlp_rf hkn tn0 (List.forall_mem_nil _))) _) hnl
      have hsL : ∀ a, a ∈ secL fa9 n ↔ ∃ j, j < n ∧ fa9 j = some a := fun a => secL_mem (fun j hj => by obtain ⟨b, h1, -⟩ := hrw9 j hj; exact ⟨b, h1⟩)
      obtain ⟨τ, hT, htx, T_q9, ht13, hto⟩ := medX hT hq9 hsa9 hrw9 hu0 hsn0
      have T_x9 : τ x9 = (1, 0) := tx_r htx T_x9
      have c_2 : τ v_1 = (2, 0) := tx_r htx c_2
      have c_4 : τ v_3 = (6, 0) := tx_r htx c_4
      have c_6 : τ v_5 = (7, 0) := tx_r htx c_6
      have c_8 : τ v_7 = (11, 0) := tx_r htx c_8
      have c_15 : τ v_14 = (7, 1) := tx_r htx c_15
      have c_17 : τ v_16 = (7, 1) := tx_r htx c_17
      have c_19 : τ v_18 = (3, 0) := tx_r htx c_19
      have c_21 : τ v_20 = (4, 0) := tx_r htx c_21
      have c_36 : τ v_35 = (12, 0) := tx_r htx c_36
      have hkf : kf τ [(13, 0), (12, 0), (11, 0), (3, 0), (5, 0), (10, 0), (9, 0), (1, 0)] [] h h_41 := kf_ext hkf (fun a => by
        rcases hto a with e | e | e | e
        · exact Or.inl e
        all_goals (rw [e]; exact Or.inr (by simp)))
      have hTr : ∀ P, τ P = (7, 0) → TrP t h_41 P := fun P hP => hTr P (by rcases hto P with e | e | e | e <;> first | exact e.symm.trans hP | (rw [hP] at e; cases e))
      have hU : ∀ a b, τ a = (7, 0) → τ b = (7, 0) → a = b := fun a b ha hb => hU a b (by rcases hto a with e | e | e | e <;> first | exact e.symm.trans ha | (rw [ha] at e; cases e)) (by rcases hto b with e | e | e | e <;> first | exact e.symm.trans hb | (rw [hb] at e; cases e))
      have hna := nl_app (L := L) (fa := fa9) (n := n) (h := h_41)
      obtain ⟨L, hLe⟩ : ∃ z, z = L ++ secL fa9 n := ⟨_, rfl⟩
      have hL : ∀ a ∈ L, τ a = (13, 0) := fun a ha => by
        rw [hLe] at ha
        rcases List.mem_append.mp ha with q | q
        · exact (ht13 a).mpr (Or.inl (hL a q))
        · exact (ht13 a).mpr (Or.inr ((hsL a).mp q))
      have hL2 : ∀ a, τ a = (13, 0) → a ∈ L := fun a ha => by
        rw [hLe]
        rcases (ht13 a).mp ha with q | q
        · exact List.mem_append_left _ (hL2 a q)
        · exact List.mem_append_right _ ((hsL a).mpr q)
      rw [← hLe] at hna
      have hnl : 202 + nl L h_41 ≤ bs9 := by omega
      refine W.widen (k := 202) (n := 2048 * 202) (by omega) (by omega) ?_
      refine hm_put (ci := 8) (v := .ref q9) (ty := (.object "WriteOnceDisc$Medium")) (C := R_Di) (T := F_Di) (N := 9) hx hb hts ig_Di t_Di tk_Di nm_Di hown hK hH hLo F_x9 rfl 4 (by decide) (hts _ mw_559) (fun _ h9 => h9) rfl (by decide +kernel) rfl rfl (Nat.le_of_ble_eq_true rfl) d_Di_compact_39 (fun H_45 locs hH z_46 hLo => ?_)
      have hz : s.heap.size ≤ H_45.size := by rw [z_46]; exact hz
      obtain ⟨h_47, e_48⟩ : ∃ z, z = hu h_41 x9 (.inr (8, [.ref v_1, .ref v_3, .ref v_5, .ref v_7, .ref q9, .int v_11, .int v_12, .ref v_14, .ref v_16])) := ⟨_, rfl⟩
      have hH : hm D vwCl G h_47 H_45 := by rw [e_48]; exact hH
      have hOld := F_x9
      have F_x9 : h_47 x9 = some (.inr (8, [.ref v_1, .ref v_3, .ref v_5, .ref v_7, .ref q9, .int v_11, .int v_12, .ref v_14, .ref v_16])) := by rw [e_48]; exact hu_s _ _ _
      have hT : TI τ t n h_47 := by rw [e_48]; exact TI_put hT T_x9 (by decide) ⟨v_1, v_3, v_5, v_7, some q9, v_11, v_12, v_14, v_16, rfl, c_2, c_4, c_6, c_8, (fun _ h9 => by cases h9; exact T_q9), c_13, c_15, c_17⟩
      have hkf : kf τ [(13, 0), (12, 0), (11, 0), (3, 0), (5, 0), (10, 0), (9, 0), (1, 0)] [] h h_47 := by rw [e_48]; exact kf_put hkf T_x9 (List.mem_cons_of_mem _ (List.mem_cons_of_mem _ (List.mem_cons_of_mem _ (List.mem_cons_of_mem _ (List.mem_cons_of_mem _ (List.mem_cons_of_mem _ (List.mem_cons_of_mem _ List.mem_cons_self)))))))
      have hnl : 202 + nl L h_47 ≤ bs9 := Nat.le_trans (Nat.add_le_add_left (nl_mono hL (by rw [e_48]; exact nlp_put2 nlp_rf (fun z => by have := z.symm.trans T_x9; simp at this))) _) hnl
      have hTr : ∀ P, τ P = (7, 0) → TrP t h_47 P := by rw [e_48] at hT ⊢; exact TrP_put hT (fun z => by have := z.symm.trans T_x9; simp at this) (fun z => by have := z.symm.trans T_x9; simp at this) (fun z => by have := z.symm.trans T_x9; simp at this) hTr
      refine lv_aload_n hx hb d_Di_compact_42 rfl (lv_at hl 0 rfl) ?_
      refine hm_get (ci := 8) (v := .ref q9) (C := R_Di) (T := F_Di) (N := 9) hx hb hts ig_Di hown hK hH F_x9 rfl 4 (by decide) (hts _ mw_559) (fun _ h9 => h9) rfl d_Di_compact_43 ?_
      obtain ⟨v_49, v_51, F_q9, c_50⟩ := TI_med hT T_q9
      refine hm_callv (va_runV (As := []) (b := q9) (rest := []) ⟨hx, hb, hml, hown, hts⟩ (t_merase l D t G ak av h_47 τ n q9  hn hT T_q9) ⟨cw9B 0 hts mw_565 mw_566 mw_32 rfl rfl (by decide +kernel) ⟨Nat.le_of_ble_eq_true rfl, Nat.le_of_ble_eq_true rfl⟩, hts _ mw_567, hts _ mw_568⟩ (hP_V (q := (R_Me, F_Me, 2)) kE_ok hE hK hH F_q9 rfl) rfl rfl hl.1 rfl (lv_room (Nat.le_of_ble_eq_true rfl)) d_Di_compact_46 ⟨show 202 + 0 ≤ B by omega, show (2048 * 202) + 0 ≤ 2048 * B by omega⟩) hLo (fun h_52 H_53 locs hp_55 hH z_54 hLo => ?_)
      have hz : s.heap.size ≤ H_53.size := Nat.le_trans hz z_54
      have hT0 := hT
      obtain ⟨hT, kf_57, xk_58⟩ := hp_55
      have F_x9 : h_52 x9 = some (.inr (8, [.ref v_1, .ref v_3, .ref v_5, .ref v_7, .ref q9, .int v_11, .int v_12, .ref v_14, .ref v_16])) := kf_at kf_57 T_x9 (by decide) (tnc (by decide) (tnc (by decide) tn0)) nm0 F_x9
      have hnl : 202 + nl L h_52 ≤ bs9 := Nat.le_trans (Nat.add_le_add_left (nl_mono hL xk_58) _) hnl
      have hTr : ∀ P, τ P = (7, 0) → TrP t h_52 P := TrP_kf hT kf_57 (tnc (by decide) (tnc (by decide) tn0)) (tnc (by decide) (tnc (by decide) tn0)) (List.forall_mem_nil _) (knp_kf knp_rf kf_57 (tnc (by decide) (tnc (by decide) tn0)) (List.forall_mem_nil _)) hTr
      have hkf : kf τ [(13, 0), (12, 0), (11, 0), (3, 0), (5, 0), (10, 0), (9, 0), (1, 0)] [] h h_52 := kf_tr hkf kf_57 (List.forall_mem_cons.mpr ⟨List.mem_cons_self, List.forall_mem_cons.mpr ⟨(List.mem_cons_of_mem _ (List.mem_cons_of_mem _ List.mem_cons_self)), List.forall_mem_nil _⟩⟩) (List.forall_mem_nil _)
      refine lv_aload_n hx hb d_Di_compact_49 rfl (lv_at hl 0 rfl) ?_
      refine hm_get (ci := 8) (v := .ref v_1) (C := R_Di) (T := F_Di) (N := 9) hx hb hts ig_Di hown hK hH F_x9 rfl 0 (by decide) (hts _ mw_430) (fun _ h9 => h9) rfl d_Di_compact_50 ?_
      refine lv_aload_n hx hb d_Di_compact_53 rfl (lv_at hl 0 rfl) ?_
      refine hm_get (ci := 8) (v := .ref v_5) (C := R_Di) (T := F_Di) (N := 9) hx hb hts ig_Di hown hK hH F_x9 rfl 2 (by decide) (hts _ mw_443) (fun _ h9 => h9) rfl d_Di_compact_54 ?_
      refine lv_aload_n hx hb d_Di_compact_57 rfl (lv_at hl 0 rfl) ?_
      refine hm_get (ci := 8) (v := .ref v_7) (C := R_Di) (T := F_Di) (N := 9) hx hb hts ig_Di hown hK hH F_x9 rfl 3 (by decide) (hts _ mw_425) (fun _ h9 => h9) rfl d_Di_compact_58 ?_
      refine lv_aload_n hx hb d_Di_compact_61 rfl (lv_at hl 0 rfl) ?_
      refine hm_get (ci := 8) (v := .ref q9) (C := R_Di) (T := F_Di) (N := 9) hx hb hts ig_Di hown hK hH F_x9 rfl 4 (by decide) (hts _ mw_559) (fun _ h9 => h9) rfl d_Di_compact_62 ?_
      obtain ⟨v_59, v_61, F_v_1, c_60, c_62⟩ := TI_wri hT c_2
      refine hm_callDi (va_runVD (As := [.ref v_5, .ref v_7, .ref q9]) (b := v_1) (rest := []) ⟨hx, hb, hml, hown, hts⟩ (t_allFiles l D t G ak av h_52 τ n 0 v_1 v_5 v_7 q9 hn hT c_2 c_6 c_8 T_q9 L (B - 202) hL hL2 (by omega)) ⟨cw9B 3 hts mw_569 mw_570 mw_275 rfl rfl (by decide +kernel) ⟨Nat.le_of_ble_eq_true rfl, Nat.le_of_ble_eq_true rfl⟩, hts _ mw_571, hts _ mw_572⟩ (hP_V (q := (R_Wr, F_Wr, 2)) kE_ok hE hK hH F_v_1 rfl) rfl rfl hl.1 rfl (lv_room (Nat.le_of_ble_eq_true rfl)) d_Di_compact_65 ⟨show 202 + (B - 202) ≤ B by omega, show (2048 * 202) + 2048 * (B - 202) ≤ 2048 * B by omega⟩) hLo (fun r_63 h_64 H_65 locs k_68 n_69 hp_67 hH z_66 hLo => ?_)
      have hz : s.heap.size ≤ H_65.size := Nat.le_trans hz z_66
      obtain ⟨rfl, hnl2, hT, kf_70, xk_71⟩ := hp_67
      have F_x9 : h_64 x9 = some (.inr (8, [.ref v_1, .ref v_3, .ref v_5, .ref v_7, .ref q9, .int v_11, .int v_12, .ref v_14, .ref v_16])) := kf_at kf_70 T_x9 (by decide) (tnc (by decide) (tnc (by decide) (tnc (by decide) (tnc (by decide) (tnc (by decide) tn0))))) nm0 F_x9
      have F_v_1 : h_64 v_1 = some (.inr (7, [.ref v_59, .ref v_61])) := kf_at kf_70 c_2 (by decide) (tnc (by decide) (tnc (by decide) (tnc (by decide) (tnc (by decide) (tnc (by decide) tn0))))) nm0 F_v_1
      have hnl : (202 + k_68) + nl L h_64 ≤ bs9 := by omega
      have hTr : ∀ P, τ P = (7, 0) → TrP t h_64 P := TrP_kf hT kf_70 (tnc (by decide) (tnc (by decide) (tnc (by decide) (tnc (by decide) (tnc (by decide) tn0))))) (tnc (by decide) (tnc (by decide) (tnc (by decide) (tnc (by decide) (tnc (by decide) tn0))))) (List.forall_mem_nil _) xk_71 hTr
      have hkf : kf τ [(13, 0), (12, 0), (11, 0), (3, 0), (5, 0), (10, 0), (9, 0), (1, 0)] [] h h_64 := kf_tr hkf kf_70 (List.forall_mem_cons.mpr ⟨List.mem_cons_self, List.forall_mem_cons.mpr ⟨(List.mem_cons_of_mem _ (List.mem_cons_of_mem _ List.mem_cons_self)), List.forall_mem_cons.mpr ⟨(List.mem_cons_of_mem _ (List.mem_cons_of_mem _ (List.mem_cons_of_mem _ List.mem_cons_self))), List.forall_mem_cons.mpr ⟨(List.mem_cons_of_mem _ (List.mem_cons_of_mem _ (List.mem_cons_of_mem _ (List.mem_cons_of_mem _ List.mem_cons_self)))), List.forall_mem_cons.mpr ⟨(List.mem_cons_of_mem _ (List.mem_cons_of_mem _ (List.mem_cons_of_mem _ (List.mem_cons_of_mem _ (List.mem_cons_of_mem _ List.mem_cons_self))))), List.forall_mem_nil _⟩⟩⟩⟩⟩) (List.forall_mem_nil _)
      refine lv_istore_n (lv' := [(1, .int r_63), (0, .ref x9)]) hx hb d_Di_compact_68 rfl hl (by decide) rfl (fun ls hl => ?_)
      refine lv_iload_n hx hb d_Di_compact_69 rfl (lv_at hl 0 rfl) ?_
      refine lv_iconst (v := 1) hx hb d_Di_compact_70 (by decide) ?_
      refine lv_icmp_ne (tgt := 91) hx hb d_Di_compact_71 (by decide) (fun hc_73 => ?_) (fun hc_73 => ?_)
      · skip
        refine lv_iload_n hx hb d_Di_compact_91 rfl (lv_at hl 0 rfl) ?_
        refine lv_iconst (v := 1) hx hb d_Di_compact_92 (by decide) ?_
        refine lv_icmp_eq (tgt := 98) hx hb d_Di_compact_93 (by decide) (fun hc_74 => ?_) (fun hc_74 => ?_)
        · skip
          have ic_75 : r_63.toInt = 1 := congrArg Int32.toInt hc_74
          refine lv_aload_n hx hb d_Di_compact_98 rfl (lv_at hl 1 rfl) ?_
          refine hm_get (ci := 8) (v := .ref v_7) (C := R_Di) (T := F_Di) (N := 9) hx hb hts ig_Di hown hK hH F_x9 rfl 3 (by decide) (hts _ mw_425) (fun _ h9 => h9) rfl d_Di_compact_99 ?_
          refine lv_astore_n (lv' := [(2, .ref v_7), (1, .int r_63), (0, .ref x9)]) hx hb d_Di_compact_102 rfl hl (by decide) rfl (fun ls hl => ?_)
          refine lv_aload_n hx hb d_Di_compact_103 rfl (lv_at hl 2 rfl) ?_
          refine lv_aload_n hx hb d_Di_compact_104 rfl (lv_at hl 2 rfl) ?_
          refine hm_get (ci := 8) (v := .ref q9) (C := R_Di) (T := F_Di) (N := 9) hx hb hts ig_Di hown hK hH F_x9 rfl 4 (by decide) (hts _ mw_559) (fun _ h9 => h9) rfl d_Di_compact_105 ?_
          refine hm_put (ci := 8) (v := .ref q9) (ty := (.object "WriteOnceDisc$Medium")) (C := R_Di) (T := F_Di) (N := 9) hx hb hts ig_Di t_Di tk_Di nm_Di hown hK hH hLo F_x9 rfl 3 (by decide) (hts _ mw_425) (fun _ h9 => h9) rfl (by decide +kernel) rfl rfl (Nat.le_of_ble_eq_true rfl) d_Di_compact_108 (fun H_76 locs hH z_77 hLo => ?_)
          have hz : s.heap.size ≤ H_76.size := by rw [z_77]; exact hz
          obtain ⟨h_78, e_79⟩ : ∃ z, z = hu h_64 x9 (.inr (8, [.ref v_1, .ref v_3, .ref v_5, .ref q9, .ref q9, .int v_11, .int v_12, .ref v_14, .ref v_16])) := ⟨_, rfl⟩
          have hH : hm D vwCl G h_78 H_76 := by rw [e_79]; exact hH
          have F_v_1 : h_78 v_1 = some (.inr (7, [.ref v_59, .ref v_61])) := by rw [e_79, hu_n (tne c_2 T_x9 (by decide))]; exact F_v_1
          have hOld := F_x9
          have F_x9 : h_78 x9 = some (.inr (8, [.ref v_1, .ref v_3, .ref v_5, .ref q9, .ref q9, .int v_11, .int v_12, .ref v_14, .ref v_16])) := by rw [e_79]; exact hu_s _ _ _
          have hT : TI τ t n h_78 := by rw [e_79]; exact TI_put hT T_x9 (by decide) ⟨v_1, v_3, v_5, q9, some q9, v_11, v_12, v_14, v_16, rfl, c_2, c_4, c_6, T_q9, (fun _ h9 => by cases h9; exact T_q9), c_13, c_15, c_17⟩
          have hkf : kf τ [(13, 0), (12, 0), (11, 0), (3, 0), (5, 0), (10, 0), (9, 0), (1, 0)] [] h h_78 := by rw [e_79]; exact kf_put hkf T_x9 (List.mem_cons_of_mem _ (List.mem_cons_of_mem _ (List.mem_cons_of_mem _ (List.mem_cons_of_mem _ (List.mem_cons_of_mem _ (List.mem_cons_of_mem _ (List.mem_cons_of_mem _ List.mem_cons_self)))))))
          have hnl : (202 + k_68) + nl L h_78 ≤ bs9 := Nat.le_trans (Nat.add_le_add_left (nl_mono hL (by rw [e_79]; exact nlp_put2 nlp_rf (fun z => by have := z.symm.trans T_x9; simp at this))) _) hnl
          have hTr : ∀ P, τ P = (7, 0) → TrP t h_78 P := by rw [e_79] at hT ⊢; exact TrP_put hT (fun z => by have := z.symm.trans T_x9; simp at this) (fun z => by have := z.symm.trans T_x9; simp at this) (fun z => by have := z.symm.trans T_x9; simp at this) hTr
          refine lv_aload_n hx hb d_Di_compact_111 rfl (lv_at hl 2 rfl) ?_
          refine lv_aload_n hx hb d_Di_compact_112 rfl (lv_at hl 0 rfl) ?_
          refine hm_put (ci := 8) (v := .ref v_7) (ty := (.object "WriteOnceDisc$Medium")) (C := R_Di) (T := F_Di) (N := 9) hx hb hts ig_Di t_Di tk_Di nm_Di hown hK hH hLo F_x9 rfl 4 (by decide) (hts _ mw_559) (fun _ h9 => h9) rfl (by decide +kernel) rfl rfl (Nat.le_of_ble_eq_true rfl) d_Di_compact_113 (fun H_80 locs hH z_81 hLo => ?_)
          have hz : s.heap.size ≤ H_80.size := by rw [z_81]; exact hz
          obtain ⟨h_82, e_83⟩ : ∃ z, z = hu h_78 x9 (.inr (8, [.ref v_1, .ref v_3, .ref v_5, .ref q9, .ref v_7, .int v_11, .int v_12, .ref v_14, .ref v_16])) := ⟨_, rfl⟩
          have hH : hm D vwCl G h_82 H_80 := by rw [e_83]; exact hH
          have F_v_1 : h_82 v_1 = some (.inr (7, [.ref v_59, .ref v_61])) := by rw [e_83, hu_n (tne c_2 T_x9 (by decide))]; exact F_v_1
          have hOld := F_x9
          have F_x9 : h_82 x9 = some (.inr (8, [.ref v_1, .ref v_3, .ref v_5, .ref q9, .ref v_7, .int v_11, .int v_12, .ref v_14, .ref v_16])) := by rw [e_83]; exact hu_s _ _ _
          have hT : TI τ t n h_82 := by rw [e_83]; exact TI_put hT T_x9 (by decide) ⟨v_1, v_3, v_5, q9, some v_7, v_11, v_12, v_14, v_16, rfl, c_2, c_4, c_6, T_q9, (fun _ h9 => by cases h9; exact c_8), c_13, c_15, c_17⟩
          have hkf : kf τ [(13, 0), (12, 0), (11, 0), (3, 0), (5, 0), (10, 0), (9, 0), (1, 0)] [] h h_82 := by rw [e_83]; exact kf_put hkf T_x9 (List.mem_cons_of_mem _ (List.mem_cons_of_mem _ (List.mem_cons_of_mem _ (List.mem_cons_of_mem _ (List.mem_cons_of_mem _ (List.mem_cons_of_mem _ (List.mem_cons_of_mem _ List.mem_cons_self)))))))
          have hnl : (202 + k_68) + nl L h_82 ≤ bs9 := Nat.le_trans (Nat.add_le_add_left (nl_mono hL (by rw [e_83]; exact nlp_put2 nlp_rf (fun z => by have := z.symm.trans T_x9; simp at this))) _) hnl
          have hTr : ∀ P, τ P = (7, 0) → TrP t h_82 P := by rw [e_83] at hT ⊢; exact TrP_put hT (fun z => by have := z.symm.trans T_x9; simp at this) (fun z => by have := z.symm.trans T_x9; simp at this) (fun z => by have := z.symm.trans T_x9; simp at this) hTr
          refine lv_aload_n hx hb d_Di_compact_116 rfl (lv_at hl 2 rfl) ?_
          refine hm_get (ci := 8) (v := .ref v_5) (C := R_Di) (T := F_Di) (N := 9) hx hb hts ig_Di hown hK hH F_x9 rfl 2 (by decide) (hts _ mw_443) (fun _ h9 => h9) rfl d_Di_compact_117 ?_
          obtain ⟨v_84, v_86, v_88, v_90, F_v_5, c_85, c_87, c_89⟩ := TI_nds hT c_6
          refine hm_callv (va_runV (As := []) (b := v_5) (rest := []) ⟨hx, hb, hml, hown, hts⟩ (t_nssettle l D t G ak av h_82 τ n 0 v_5  hn hT c_6) ⟨cw9B 0 hts mw_573 mw_574 mw_132 rfl rfl (by decide +kernel) ⟨Nat.le_of_ble_eq_true rfl, Nat.le_of_ble_eq_true rfl⟩, hts _ mw_575, hts _ mw_576⟩ (hP_V (q := (R_Ns, F_Ns, 4)) kE_ok hE hK hH F_v_5 rfl) rfl rfl hl.1 rfl (lv_room (Nat.le_of_ble_eq_true rfl)) d_Di_compact_120 ⟨show (202 + k_68) + 0 ≤ B by omega, show ((2048 * 202) + 2048 * k_68) + 0 ≤ 2048 * B by omega⟩) hLo (fun h_91 H_92 locs hp_94 hH z_93 hLo => ?_)
          have hz : s.heap.size ≤ H_92.size := Nat.le_trans hz z_93
          have hT0 := hT
          obtain ⟨hT, kf_96, xk_97⟩ := hp_94
          have F_x9 : h_91 x9 = some (.inr (8, [.ref v_1, .ref v_3, .ref v_5, .ref q9, .ref v_7, .int v_11, .int v_12, .ref v_14, .ref v_16])) := kf_at kf_96 T_x9 (by decide) (tnc (by decide) tn0) nm0 F_x9
          have F_v_1 : h_91 v_1 = some (.inr (7, [.ref v_59, .ref v_61])) := kf_at kf_96 c_2 (by decide) (tnc (by decide) tn0) nm0 F_v_1
          have F_v_5 : h_91 v_5 = some (.inr (2, [.ref v_84, .ref v_86, .int v_88, .int v_90])) := kf_at kf_96 c_6 (by decide) (tnc (by decide) tn0) nm0 F_v_5
          have hnl : (202 + k_68) + nl L h_91 ≤ bs9 := Nat.le_trans (Nat.add_le_add_left (nl_mono hL (nlp_kf nlp_rf kf_96 (tnc (by decide) tn0) (List.forall_mem_nil _))) _) hnl
          have hTr : ∀ P, τ P = (7, 0) → TrP t h_91 P := TrP_kf hT kf_96 (tnc (by decide) tn0) (tnc (by decide) tn0) (List.forall_mem_nil _) xk_97 hTr
          have hkf : kf τ [(13, 0), (12, 0), (11, 0), (3, 0), (5, 0), (10, 0), (9, 0), (1, 0)] [] h h_91 := kf_tr hkf kf_96 (List.forall_mem_cons.mpr ⟨(List.mem_cons_of_mem _ (List.mem_cons_of_mem _ (List.mem_cons_of_mem _ (List.mem_cons_of_mem _ (List.mem_cons_of_mem _ List.mem_cons_self))))), List.forall_mem_nil _⟩) (List.forall_mem_nil _)
          refine lv_aload_n hx hb d_Di_compact_123 rfl (lv_at hl 2 rfl) ?_
          refine lv_iconst (v := 0) hx hb d_Di_compact_124 (by decide) ?_
          refine hm_put (ci := 8) (v := .int 0) (ty := .boolean) (C := R_Di) (T := F_Di) (N := 9) hx hb hts ig_Di t_Di tk_Di nm_Di hown hK hH hLo F_x9 rfl 6 (by decide) (hts _ mw_450) (fun _ h9 => h9) rfl (by decide +kernel) (by decide) (by decide) (Nat.le_of_ble_eq_true rfl) d_Di_compact_125 (fun H_98 locs hH z_99 hLo => ?_)
          have hz : s.heap.size ≤ H_98.size := by rw [z_99]; exact hz
          obtain ⟨h_100, e_101⟩ : ∃ z, z = hu h_91 x9 (.inr (8, [.ref v_1, .ref v_3, .ref v_5, .ref q9, .ref v_7, .int v_11, .int 0, .ref v_14, .ref v_16])) := ⟨_, rfl⟩
          have hH : hm D vwCl G h_100 H_98 := by rw [e_101]; exact hH
          have F_v_1 : h_100 v_1 = some (.inr (7, [.ref v_59, .ref v_61])) := by rw [e_101, hu_n (tne c_2 T_x9 (by decide))]; exact F_v_1
          have F_v_5 : h_100 v_5 = some (.inr (2, [.ref v_84, .ref v_86, .int v_88, .int v_90])) := by rw [e_101, hu_n (tne c_6 T_x9 (by decide))]; exact F_v_5
          have hOld := F_x9
          have F_x9 : h_100 x9 = some (.inr (8, [.ref v_1, .ref v_3, .ref v_5, .ref q9, .ref v_7, .int v_11, .int 0, .ref v_14, .ref v_16])) := by rw [e_101]; exact hu_s _ _ _
          have hT : TI τ t n h_100 := by rw [e_101]; exact TI_put hT T_x9 (by decide) ⟨v_1, v_3, v_5, q9, some v_7, v_11, 0, v_14, v_16, rfl, c_2, c_4, c_6, T_q9, (fun _ h9 => by cases h9; exact c_8), zb0, c_15, c_17⟩
          have hkf : kf τ [(13, 0), (12, 0), (11, 0), (3, 0), (5, 0), (10, 0), (9, 0), (1, 0)] [] h h_100 := by rw [e_101]; exact kf_put hkf T_x9 (List.mem_cons_of_mem _ (List.mem_cons_of_mem _ (List.mem_cons_of_mem _ (List.mem_cons_of_mem _ (List.mem_cons_of_mem _ (List.mem_cons_of_mem _ (List.mem_cons_of_mem _ List.mem_cons_self)))))))
          have hnl : (202 + k_68) + nl L h_100 ≤ bs9 := Nat.le_trans (Nat.add_le_add_left (nl_mono hL (by rw [e_101]; exact nlp_put2 nlp_rf (fun z => by have := z.symm.trans T_x9; simp at this))) _) hnl
          have hTr : ∀ P, τ P = (7, 0) → TrP t h_100 P := by rw [e_101] at hT ⊢; exact TrP_put hT (fun z => by have := z.symm.trans T_x9; simp at this) (fun z => by have := z.symm.trans T_x9; simp at this) (fun z => by have := z.symm.trans T_x9; simp at this) hTr
          refine lv_aload_n hx hb d_Di_compact_128 rfl (lv_at hl 2 rfl) ?_
          refine lv_iconst (v := 1) hx hb d_Di_compact_129 (by decide) ?_
          refine hm_put (ci := 8) (v := .int 1) (ty := .int) (C := R_Di) (T := F_Di) (N := 9) hx hb hts ig_Di t_Di tk_Di nm_Di hown hK hH hLo F_x9 rfl 5 (by decide) (hts _ mw_490) (fun _ h9 => h9) rfl (by decide +kernel) rfl rfl (Nat.le_of_ble_eq_true rfl) d_Di_compact_130 (fun H_102 locs hH z_103 hLo => ?_)
          have hz : s.heap.size ≤ H_102.size := by rw [z_103]; exact hz
          obtain ⟨h_104, e_105⟩ : ∃ z, z = hu h_100 x9 (.inr (8, [.ref v_1, .ref v_3, .ref v_5, .ref q9, .ref v_7, .int 1, .int 0, .ref v_14, .ref v_16])) := ⟨_, rfl⟩
          have hH : hm D vwCl G h_104 H_102 := by rw [e_105]; exact hH
          have F_v_1 : h_104 v_1 = some (.inr (7, [.ref v_59, .ref v_61])) := by rw [e_105, hu_n (tne c_2 T_x9 (by decide))]; exact F_v_1
          have F_v_5 : h_104 v_5 = some (.inr (2, [.ref v_84, .ref v_86, .int v_88, .int v_90])) := by rw [e_105, hu_n (tne c_6 T_x9 (by decide))]; exact F_v_5
          have hOld := F_x9
          have F_x9 : h_104 x9 = some (.inr (8, [.ref v_1, .ref v_3, .ref v_5, .ref q9, .ref v_7, .int 1, .int 0, .ref v_14, .ref v_16])) := by rw [e_105]; exact hu_s _ _ _
          have hT : TI τ t n h_104 := by rw [e_105]; exact TI_put hT T_x9 (by decide) ⟨v_1, v_3, v_5, q9, some v_7, 1, 0, v_14, v_16, rfl, c_2, c_4, c_6, T_q9, (fun _ h9 => by cases h9; exact c_8), zb0, c_15, c_17⟩
          have hkf : kf τ [(13, 0), (12, 0), (11, 0), (3, 0), (5, 0), (10, 0), (9, 0), (1, 0)] [] h h_104 := by rw [e_105]; exact kf_put hkf T_x9 (List.mem_cons_of_mem _ (List.mem_cons_of_mem _ (List.mem_cons_of_mem _ (List.mem_cons_of_mem _ (List.mem_cons_of_mem _ (List.mem_cons_of_mem _ (List.mem_cons_of_mem _ List.mem_cons_self)))))))
          have hnl : (202 + k_68) + nl L h_104 ≤ bs9 := Nat.le_trans (Nat.add_le_add_left (nl_mono hL (by rw [e_105]; exact nlp_put2 nlp_rf (fun z => by have := z.symm.trans T_x9; simp at this))) _) hnl
          have hTr : ∀ P, τ P = (7, 0) → TrP t h_104 P := by rw [e_105] at hT ⊢; exact TrP_put hT (fun z => by have := z.symm.trans T_x9; simp at this) (fun z => by have := z.symm.trans T_x9; simp at this) (fun z => by have := z.symm.trans T_x9; simp at this) hTr
          refine lv_aload_n hx hb d_Di_compact_133 rfl (lv_at hl 2 rfl) ?_
          refine hm_get (ci := 8) (v := .int 1) (C := R_Di) (T := F_Di) (N := 9) hx hb hts ig_Di hown hK hH F_x9 rfl 5 (by decide) (hts _ mw_490) (fun _ h9 => h9) rfl d_Di_compact_134 ?_
          have hse : spz h_104 x9 = if (some v_7) = none then 402 else 0 := spz_of (v := (some v_7)) F_x9
          rw [if_neg (fun z => by cases z)] at hse
          refine W.toD ?_
          exact W.iret (v := 1) hx hb hr (fun t9 ht hW => ⟨1, h_104, rfl, ⟨(by omega), τ, L, htx, T_x9, hT, hU, hTr, hL, hL2, (by rw [← hbs]; omega)⟩, by rw [ht]; exact hH, by rw [ht]; exact hz⟩) hLo d_Di_compact_137
        · skip
          refine lv_iload_n hx hb d_Di_compact_96 rfl (lv_at hl 0 rfl) ?_
          have hse : spz h_64 x9 = if (some q9) = none then 402 else 0 := spz_of (v := (some q9)) F_x9
          rw [if_neg (fun z => by cases z)] at hse
          refine W.toD ?_
          exact W.iret (v := r_63) hx hb hr (fun t9 ht hW => ⟨r_63, h_64, rfl, ⟨(by omega), τ, L, htx, T_x9, hT, hU, hTr, hL, hL2, (by rw [← hbs]; omega)⟩, by rw [ht]; exact hH, by rw [ht]; exact hz⟩) hLo d_Di_compact_97
      · skip
        have ic_106 : r_63.toInt = 1 := congrArg Int32.toInt hc_73
        refine lv_aload_n hx hb d_Di_compact_74 rfl (lv_at hl 1 rfl) ?_
        refine hm_get (ci := 8) (v := .ref v_1) (C := R_Di) (T := F_Di) (N := 9) hx hb hts ig_Di hown hK hH F_x9 rfl 0 (by decide) (hts _ mw_430) (fun _ h9 => h9) rfl d_Di_compact_75 ?_
        refine lv_aload_n hx hb d_Di_compact_78 rfl (lv_at hl 1 rfl) ?_
        refine hm_get (ci := 8) (v := .ref v_5) (C := R_Di) (T := F_Di) (N := 9) hx hb hts ig_Di hown hK hH F_x9 rfl 2 (by decide) (hts _ mw_443) (fun _ h9 => h9) rfl d_Di_compact_79 ?_
        refine lv_aload_n hx hb d_Di_compact_82 rfl (lv_at hl 1 rfl) ?_
        refine hm_get (ci := 8) (v := .ref q9) (C := R_Di) (T := F_Di) (N := 9) hx hb hts ig_Di hown hK hH F_x9 rfl 4 (by decide) (hts _ mw_559) (fun _ h9 => h9) rfl d_Di_compact_83 ?_
        refine lv_iconst (v := 1) hx hb d_Di_compact_86 (by decide) ?_
        refine hm_callDi (va_runVD (As := [.ref v_5, .ref q9, .int 1]) (b := v_1) (rest := []) ⟨hx, hb, hml, hown, hts⟩ (t_wsess l D t G ak av h_64 τ n 0 v_1 v_5 q9 1 hn hT c_2 c_6 T_q9 L (B - (202 + k_68)) hL hL2 (by omega)) ⟨cw9B 3 hts mw_491 mw_492 mw_275 rfl rfl (by decide +kernel) ⟨Nat.le_of_ble_eq_true rfl, Nat.le_of_ble_eq_true rfl⟩, hts _ mw_493, hts _ mw_494⟩ (hP_V (q := (R_Wr, F_Wr, 2)) kE_ok hE hK hH F_v_1 rfl) rfl rfl hl.1 rfl (lv_room (Nat.le_of_ble_eq_true rfl)) d_Di_compact_87 ⟨show (202 + k_68) + (B - (202 + k_68)) ≤ B by omega, show ((2048 * 202) + 2048 * k_68) + 2048 * (B - (202 + k_68)) ≤ 2048 * B by omega⟩) hLo (fun r_107 h_108 H_109 locs k_112 n_113 hp_111 hH z_110 hLo => ?_)
        have hz : s.heap.size ≤ H_109.size := Nat.le_trans hz z_110
        obtain ⟨rfl, hnl2, hT, kf_114, xk_115⟩ := hp_111
        have F_x9 : h_108 x9 = some (.inr (8, [.ref v_1, .ref v_3, .ref v_5, .ref v_7, .ref q9, .int v_11, .int v_12, .ref v_14, .ref v_16])) := kf_at kf_114 T_x9 (by decide) (tnc (by decide) (tnc (by decide) (tnc (by decide) (tnc (by decide) (tnc (by decide) (tnc (by decide) tn0)))))) nm0 F_x9
        have F_v_1 : h_108 v_1 = some (.inr (7, [.ref v_59, .ref v_61])) := kf_at kf_114 c_2 (by decide) (tnc (by decide) (tnc (by decide) (tnc (by decide) (tnc (by decide) (tnc (by decide) (tnc (by decide) tn0)))))) nm0 F_v_1
        have hnl : ((202 + k_68) + k_112) + nl L h_108 ≤ bs9 := by omega
        have hTr : ∀ P, τ P = (7, 0) → TrP t h_108 P := TrP_kf hT kf_114 (tnc (by decide) (tnc (by decide) (tnc (by decide) (tnc (by decide) (tnc (by decide) (tnc (by decide) tn0)))))) (tnc (by decide) (tnc (by decide) (tnc (by decide) (tnc (by decide) (tnc (by decide) (tnc (by decide) tn0)))))) (List.forall_mem_nil _) xk_115 hTr
        have hkf : kf τ [(13, 0), (12, 0), (11, 0), (3, 0), (5, 0), (10, 0), (9, 0), (1, 0)] [] h h_108 := kf_tr hkf kf_114 (List.forall_mem_cons.mpr ⟨List.mem_cons_self, List.forall_mem_cons.mpr ⟨(List.mem_cons_of_mem _ (List.mem_cons_of_mem _ List.mem_cons_self)), List.forall_mem_cons.mpr ⟨(List.mem_cons_of_mem _ (List.mem_cons_of_mem _ (List.mem_cons_of_mem _ List.mem_cons_self))), List.forall_mem_cons.mpr ⟨(List.mem_cons_of_mem _ (List.mem_cons_of_mem _ (List.mem_cons_of_mem _ (List.mem_cons_of_mem _ List.mem_cons_self)))), List.forall_mem_cons.mpr ⟨(List.mem_cons_of_mem _ (List.mem_cons_of_mem _ (List.mem_cons_of_mem _ (List.mem_cons_of_mem _ (List.mem_cons_of_mem _ List.mem_cons_self))))), List.forall_mem_cons.mpr ⟨(List.mem_cons_of_mem _ (List.mem_cons_of_mem _ (List.mem_cons_of_mem _ (List.mem_cons_of_mem _ (List.mem_cons_of_mem _ (List.mem_cons_of_mem _ List.mem_cons_self)))))), List.forall_mem_nil _⟩⟩⟩⟩⟩⟩) (List.forall_mem_nil _)
        refine lv_istore_n (lv' := [(1, .int r_107), (0, .ref x9)]) hx hb d_Di_compact_90 rfl hl (by decide) rfl (fun ls hl => ?_)
        refine lv_iload_n hx hb d_Di_compact_91 rfl (lv_at hl 0 rfl) ?_
        refine lv_iconst (v := 1) hx hb d_Di_compact_92 (by decide) ?_
        refine lv_icmp_eq (tgt := 98) hx hb d_Di_compact_93 (by decide) (fun hc_117 => ?_) (fun hc_117 => ?_)
        · skip
          have ic_118 : r_107.toInt = 1 := congrArg Int32.toInt hc_117
          refine lv_aload_n hx hb d_Di_compact_98 rfl (lv_at hl 1 rfl) ?_
          refine hm_get (ci := 8) (v := .ref v_7) (C := R_Di) (T := F_Di) (N := 9) hx hb hts ig_Di hown hK hH F_x9 rfl 3 (by decide) (hts _ mw_425) (fun _ h9 => h9) rfl d_Di_compact_99 ?_
          refine lv_astore_n (lv' := [(2, .ref v_7), (1, .int r_107), (0, .ref x9)]) hx hb d_Di_compact_102 rfl hl (by decide) rfl (fun ls hl => ?_)
          refine lv_aload_n hx hb d_Di_compact_103 rfl (lv_at hl 2 rfl) ?_
          refine lv_aload_n hx hb d_Di_compact_104 rfl (lv_at hl 2 rfl) ?_
          refine hm_get (ci := 8) (v := .ref q9) (C := R_Di) (T := F_Di) (N := 9) hx hb hts ig_Di hown hK hH F_x9 rfl 4 (by decide) (hts _ mw_559) (fun _ h9 => h9) rfl d_Di_compact_105 ?_
          refine hm_put (ci := 8) (v := .ref q9) (ty := (.object "WriteOnceDisc$Medium")) (C := R_Di) (T := F_Di) (N := 9) hx hb hts ig_Di t_Di tk_Di nm_Di hown hK hH hLo F_x9 rfl 3 (by decide) (hts _ mw_425) (fun _ h9 => h9) rfl (by decide +kernel) rfl rfl (Nat.le_of_ble_eq_true rfl) d_Di_compact_108 (fun H_119 locs hH z_120 hLo => ?_)
          have hz : s.heap.size ≤ H_119.size := by rw [z_120]; exact hz
          obtain ⟨h_121, e_122⟩ : ∃ z, z = hu h_108 x9 (.inr (8, [.ref v_1, .ref v_3, .ref v_5, .ref q9, .ref q9, .int v_11, .int v_12, .ref v_14, .ref v_16])) := ⟨_, rfl⟩
          have hH : hm D vwCl G h_121 H_119 := by rw [e_122]; exact hH
          have F_v_1 : h_121 v_1 = some (.inr (7, [.ref v_59, .ref v_61])) := by rw [e_122, hu_n (tne c_2 T_x9 (by decide))]; exact F_v_1
          have hOld := F_x9
          have F_x9 : h_121 x9 = some (.inr (8, [.ref v_1, .ref v_3, .ref v_5, .ref q9, .ref q9, .int v_11, .int v_12, .ref v_14, .ref v_16])) := by rw [e_122]; exact hu_s _ _ _
          have hT : TI τ t n h_121 := by rw [e_122]; exact TI_put hT T_x9 (by decide) ⟨v_1, v_3, v_5, q9, some q9, v_11, v_12, v_14, v_16, rfl, c_2, c_4, c_6, T_q9, (fun _ h9 => by cases h9; exact T_q9), c_13, c_15, c_17⟩
          have hkf : kf τ [(13, 0), (12, 0), (11, 0), (3, 0), (5, 0), (10, 0), (9, 0), (1, 0)] [] h h_121 := by rw [e_122]; exact kf_put hkf T_x9 (List.mem_cons_of_mem _ (List.mem_cons_of_mem _ (List.mem_cons_of_mem _ (List.mem_cons_of_mem _ (List.mem_cons_of_mem _ (List.mem_cons_of_mem _ (List.mem_cons_of_mem _ List.mem_cons_self)))))))
          have hnl : ((202 + k_68) + k_112) + nl L h_121 ≤ bs9 := Nat.le_trans (Nat.add_le_add_left (nl_mono hL (by rw [e_122]; exact nlp_put2 nlp_rf (fun z => by have := z.symm.trans T_x9; simp at this))) _) hnl
          have hTr : ∀ P, τ P = (7, 0) → TrP t h_121 P := by rw [e_122] at hT ⊢; exact TrP_put hT (fun z => by have := z.symm.trans T_x9; simp at this) (fun z => by have := z.symm.trans T_x9; simp at this) (fun z => by have := z.symm.trans T_x9; simp at this) hTr
          refine lv_aload_n hx hb d_Di_compact_111 rfl (lv_at hl 2 rfl) ?_
          refine lv_aload_n hx hb d_Di_compact_112 rfl (lv_at hl 0 rfl) ?_
          refine hm_put (ci := 8) (v := .ref v_7) (ty := (.object "WriteOnceDisc$Medium")) (C := R_Di) (T := F_Di) (N := 9) hx hb hts ig_Di t_Di tk_Di nm_Di hown hK hH hLo F_x9 rfl 4 (by decide) (hts _ mw_559) (fun _ h9 => h9) rfl (by decide +kernel) rfl rfl (Nat.le_of_ble_eq_true rfl) d_Di_compact_113 (fun H_123 locs hH z_124 hLo => ?_)
          have hz : s.heap.size ≤ H_123.size := by rw [z_124]; exact hz
          obtain ⟨h_125, e_126⟩ : ∃ z, z = hu h_121 x9 (.inr (8, [.ref v_1, .ref v_3, .ref v_5, .ref q9, .ref v_7, .int v_11, .int v_12, .ref v_14, .ref v_16])) := ⟨_, rfl⟩
          have hH : hm D vwCl G h_125 H_123 := by rw [e_126]; exact hH
          have F_v_1 : h_125 v_1 = some (.inr (7, [.ref v_59, .ref v_61])) := by rw [e_126, hu_n (tne c_2 T_x9 (by decide))]; exact F_v_1
          have hOld := F_x9
          have F_x9 : h_125 x9 = some (.inr (8, [.ref v_1, .ref v_3, .ref v_5, .ref q9, .ref v_7, .int v_11, .int v_12, .ref v_14, .ref v_16])) := by rw [e_126]; exact hu_s _ _ _
          have hT : TI τ t n h_125 := by rw [e_126]; exact TI_put hT T_x9 (by decide) ⟨v_1, v_3, v_5, q9, some v_7, v_11, v_12, v_14, v_16, rfl, c_2, c_4, c_6, T_q9, (fun _ h9 => by cases h9; exact c_8), c_13, c_15, c_17⟩
          have hkf : kf τ [(13, 0), (12, 0), (11, 0), (3, 0), (5, 0), (10, 0), (9, 0), (1, 0)] [] h h_125 := by rw [e_126]; exact kf_put hkf T_x9 (List.mem_cons_of_mem _ (List.mem_cons_of_mem _ (List.mem_cons_of_mem _ (List.mem_cons_of_mem _ (List.mem_cons_of_mem _ (List.mem_cons_of_mem _ (List.mem_cons_of_mem _ List.mem_cons_self)))))))
          have hnl : ((202 + k_68) + k_112) + nl L h_125 ≤ bs9 := Nat.le_trans (Nat.add_le_add_left (nl_mono hL (by rw [e_126]; exact nlp_put2 nlp_rf (fun z => by have := z.symm.trans T_x9; simp at this))) _) hnl
          have hTr : ∀ P, τ P = (7, 0) → TrP t h_125 P := by rw [e_126] at hT ⊢; exact TrP_put hT (fun z => by have := z.symm.trans T_x9; simp at this) (fun z => by have := z.symm.trans T_x9; simp at this) (fun z => by have := z.symm.trans T_x9; simp at this) hTr
          refine lv_aload_n hx hb d_Di_compact_116 rfl (lv_at hl 2 rfl) ?_
          refine hm_get (ci := 8) (v := .ref v_5) (C := R_Di) (T := F_Di) (N := 9) hx hb hts ig_Di hown hK hH F_x9 rfl 2 (by decide) (hts _ mw_443) (fun _ h9 => h9) rfl d_Di_compact_117 ?_
          obtain ⟨v_127, v_129, v_131, v_133, F_v_5, c_128, c_130, c_132⟩ := TI_nds hT c_6
          refine hm_callv (va_runV (As := []) (b := v_5) (rest := []) ⟨hx, hb, hml, hown, hts⟩ (t_nssettle l D t G ak av h_125 τ n 0 v_5  hn hT c_6) ⟨cw9B 0 hts mw_573 mw_574 mw_132 rfl rfl (by decide +kernel) ⟨Nat.le_of_ble_eq_true rfl, Nat.le_of_ble_eq_true rfl⟩, hts _ mw_575, hts _ mw_576⟩ (hP_V (q := (R_Ns, F_Ns, 4)) kE_ok hE hK hH F_v_5 rfl) rfl rfl hl.1 rfl (lv_room (Nat.le_of_ble_eq_true rfl)) d_Di_compact_120 ⟨show ((202 + k_68) + k_112) + 0 ≤ B by omega, show (((2048 * 202) + 2048 * k_68) + 2048 * k_112) + 0 ≤ 2048 * B by omega⟩) hLo (fun h_134 H_135 locs hp_137 hH z_136 hLo => ?_)
          have hz : s.heap.size ≤ H_135.size := Nat.le_trans hz z_136
          have hT0 := hT
          obtain ⟨hT, kf_139, xk_140⟩ := hp_137
          have F_x9 : h_134 x9 = some (.inr (8, [.ref v_1, .ref v_3, .ref v_5, .ref q9, .ref v_7, .int v_11, .int v_12, .ref v_14, .ref v_16])) := kf_at kf_139 T_x9 (by decide) (tnc (by decide) tn0) nm0 F_x9
          have F_v_1 : h_134 v_1 = some (.inr (7, [.ref v_59, .ref v_61])) := kf_at kf_139 c_2 (by decide) (tnc (by decide) tn0) nm0 F_v_1
          have F_v_5 : h_134 v_5 = some (.inr (2, [.ref v_127, .ref v_129, .int v_131, .int v_133])) := kf_at kf_139 c_6 (by decide) (tnc (by decide) tn0) nm0 F_v_5
          have hnl : ((202 + k_68) + k_112) + nl L h_134 ≤ bs9 := Nat.le_trans (Nat.add_le_add_left (nl_mono hL (nlp_kf nlp_rf kf_139 (tnc (by decide) tn0) (List.forall_mem_nil _))) _) hnl
          have hTr : ∀ P, τ P = (7, 0) → TrP t h_134 P := TrP_kf hT kf_139 (tnc (by decide) tn0) (tnc (by decide) tn0) (List.forall_mem_nil _) xk_140 hTr
          have hkf : kf τ [(13, 0), (12, 0), (11, 0), (3, 0), (5, 0), (10, 0), (9, 0), (1, 0)] [] h h_134 := kf_tr hkf kf_139 (List.forall_mem_cons.mpr ⟨(List.mem_cons_of_mem _ (List.mem_cons_of_mem _ (List.mem_cons_of_mem _ (List.mem_cons_of_mem _ (List.mem_cons_of_mem _ List.mem_cons_self))))), List.forall_mem_nil _⟩) (List.forall_mem_nil _)
          refine lv_aload_n hx hb d_Di_compact_123 rfl (lv_at hl 2 rfl) ?_
          refine lv_iconst (v := 0) hx hb d_Di_compact_124 (by decide) ?_
          refine hm_put (ci := 8) (v := .int 0) (ty := .boolean) (C := R_Di) (T := F_Di) (N := 9) hx hb hts ig_Di t_Di tk_Di nm_Di hown hK hH hLo F_x9 rfl 6 (by decide) (hts _ mw_450) (fun _ h9 => h9) rfl (by decide +kernel) (by decide) (by decide) (Nat.le_of_ble_eq_true rfl) d_Di_compact_125 (fun H_141 locs hH z_142 hLo => ?_)
          have hz : s.heap.size ≤ H_141.size := by rw [z_142]; exact hz
          obtain ⟨h_143, e_144⟩ : ∃ z, z = hu h_134 x9 (.inr (8, [.ref v_1, .ref v_3, .ref v_5, .ref q9, .ref v_7, .int v_11, .int 0, .ref v_14, .ref v_16])) := ⟨_, rfl⟩
          have hH : hm D vwCl G h_143 H_141 := by rw [e_144]; exact hH
          have F_v_1 : h_143 v_1 = some (.inr (7, [.ref v_59, .ref v_61])) := by rw [e_144, hu_n (tne c_2 T_x9 (by decide))]; exact F_v_1
          have F_v_5 : h_143 v_5 = some (.inr (2, [.ref v_127, .ref v_129, .int v_131, .int v_133])) := by rw [e_144, hu_n (tne c_6 T_x9 (by decide))]; exact F_v_5
          have hOld := F_x9
          have F_x9 : h_143 x9 = some (.inr (8, [.ref v_1, .ref v_3, .ref v_5, .ref q9, .ref v_7, .int v_11, .int 0, .ref v_14, .ref v_16])) := by rw [e_144]; exact hu_s _ _ _
          have hT : TI τ t n h_143 := by rw [e_144]; exact TI_put hT T_x9 (by decide) ⟨v_1, v_3, v_5, q9, some v_7, v_11, 0, v_14, v_16, rfl, c_2, c_4, c_6, T_q9, (fun _ h9 => by cases h9; exact c_8), zb0, c_15, c_17⟩
          have hkf : kf τ [(13, 0), (12, 0), (11, 0), (3, 0), (5, 0), (10, 0), (9, 0), (1, 0)] [] h h_143 := by rw [e_144]; exact kf_put hkf T_x9 (List.mem_cons_of_mem _ (List.mem_cons_of_mem _ (List.mem_cons_of_mem _ (List.mem_cons_of_mem _ (List.mem_cons_of_mem _ (List.mem_cons_of_mem _ (List.mem_cons_of_mem _ List.mem_cons_self)))))))
          have hnl : ((202 + k_68) + k_112) + nl L h_143 ≤ bs9 := Nat.le_trans (Nat.add_le_add_left (nl_mono hL (by rw [e_144]; exact nlp_put2 nlp_rf (fun z => by have := z.symm.trans T_x9; simp at this))) _) hnl
          have hTr : ∀ P, τ P = (7, 0) → TrP t h_143 P := by rw [e_144] at hT ⊢; exact TrP_put hT (fun z => by have := z.symm.trans T_x9; simp at this) (fun z => by have := z.symm.trans T_x9; simp at this) (fun z => by have := z.symm.trans T_x9; simp at this) hTr
          refine lv_aload_n hx hb d_Di_compact_128 rfl (lv_at hl 2 rfl) ?_
          refine lv_iconst (v := 1) hx hb d_Di_compact_129 (by decide) ?_
          refine hm_put (ci := 8) (v := .int 1) (ty := .int) (C := R_Di) (T := F_Di) (N := 9) hx hb hts ig_Di t_Di tk_Di nm_Di hown hK hH hLo F_x9 rfl 5 (by decide) (hts _ mw_490) (fun _ h9 => h9) rfl (by decide +kernel) rfl rfl (Nat.le_of_ble_eq_true rfl) d_Di_compact_130 (fun H_145 locs hH z_146 hLo => ?_)
          have hz : s.heap.size ≤ H_145.size := by rw [z_146]; exact hz
          obtain ⟨h_147, e_148⟩ : ∃ z, z = hu h_143 x9 (.inr (8, [.ref v_1, .ref v_3, .ref v_5, .ref q9, .ref v_7, .int 1, .int 0, .ref v_14, .ref v_16])) := ⟨_, rfl⟩
          have hH : hm D vwCl G h_147 H_145 := by rw [e_148]; exact hH
          have F_v_1 : h_147 v_1 = some (.inr (7, [.ref v_59, .ref v_61])) := by rw [e_148, hu_n (tne c_2 T_x9 (by decide))]; exact F_v_1
          have F_v_5 : h_147 v_5 = some (.inr (2, [.ref v_127, .ref v_129, .int v_131, .int v_133])) := by rw [e_148, hu_n (tne c_6 T_x9 (by decide))]; exact F_v_5
          have hOld := F_x9
          have F_x9 : h_147 x9 = some (.inr (8, [.ref v_1, .ref v_3, .ref v_5, .ref q9, .ref v_7, .int 1, .int 0, .ref v_14, .ref v_16])) := by rw [e_148]; exact hu_s _ _ _
          have hT : TI τ t n h_147 := by rw [e_148]; exact TI_put hT T_x9 (by decide) ⟨v_1, v_3, v_5, q9, some v_7, 1, 0, v_14, v_16, rfl, c_2, c_4, c_6, T_q9, (fun _ h9 => by cases h9; exact c_8), zb0, c_15, c_17⟩
          have hkf : kf τ [(13, 0), (12, 0), (11, 0), (3, 0), (5, 0), (10, 0), (9, 0), (1, 0)] [] h h_147 := by rw [e_148]; exact kf_put hkf T_x9 (List.mem_cons_of_mem _ (List.mem_cons_of_mem _ (List.mem_cons_of_mem _ (List.mem_cons_of_mem _ (List.mem_cons_of_mem _ (List.mem_cons_of_mem _ (List.mem_cons_of_mem _ List.mem_cons_self)))))))
          have hnl : ((202 + k_68) + k_112) + nl L h_147 ≤ bs9 := Nat.le_trans (Nat.add_le_add_left (nl_mono hL (by rw [e_148]; exact nlp_put2 nlp_rf (fun z => by have := z.symm.trans T_x9; simp at this))) _) hnl
          have hTr : ∀ P, τ P = (7, 0) → TrP t h_147 P := by rw [e_148] at hT ⊢; exact TrP_put hT (fun z => by have := z.symm.trans T_x9; simp at this) (fun z => by have := z.symm.trans T_x9; simp at this) (fun z => by have := z.symm.trans T_x9; simp at this) hTr
          refine lv_aload_n hx hb d_Di_compact_133 rfl (lv_at hl 2 rfl) ?_
          refine hm_get (ci := 8) (v := .int 1) (C := R_Di) (T := F_Di) (N := 9) hx hb hts ig_Di hown hK hH F_x9 rfl 5 (by decide) (hts _ mw_490) (fun _ h9 => h9) rfl d_Di_compact_134 ?_
          have hse : spz h_147 x9 = if (some v_7) = none then 402 else 0 := spz_of (v := (some v_7)) F_x9
          rw [if_neg (fun z => by cases z)] at hse
          refine W.toD ?_
          exact W.iret (v := 1) hx hb hr (fun t9 ht hW => ⟨1, h_147, rfl, ⟨(by omega), τ, L, htx, T_x9, hT, hU, hTr, hL, hL2, (by rw [← hbs]; omega)⟩, by rw [ht]; exact hH, by rw [ht]; exact hz⟩) hLo d_Di_compact_137
        · skip
          refine lv_iload_n hx hb d_Di_compact_96 rfl (lv_at hl 0 rfl) ?_
          have hse : spz h_108 x9 = if (some q9) = none then 402 else 0 := spz_of (v := (some q9)) F_x9
          rw [if_neg (fun z => by cases z)] at hse
          refine W.toD ?_
          exact W.iret (v := r_107) hx hb hr (fun t9 ht hW => ⟨r_107, h_108, rfl, ⟨(by omega), τ, L, htx, T_x9, hT, hU, hTr, hL, hL2, (by rw [← hbs]; omega)⟩, by rw [ht]; exact hH, by rw [ht]; exact hz⟩) hLo d_Di_compact_97
    · skip
      have T_29 := c_10 q_28 rfl
      refine lv_ifnonnull (tgt := 42) hx hb d_Di_compact_20 (by decide) ?_
      refine lv_aload_n hx hb d_Di_compact_42 rfl (lv_at hl 0 rfl) ?_
      refine hm_get (ci := 8) (v := .ref q_28) (C := R_Di) (T := F_Di) (N := 9) hx hb hts ig_Di hown hK hH F_x9 rfl 4 (by decide) (hts _ mw_559) (fun _ h9 => h9) rfl d_Di_compact_43 ?_
      obtain ⟨v_149, v_151, F_q_28, c_150⟩ := TI_med hT T_29
      refine hm_callv (va_runV (As := []) (b := q_28) (rest := []) ⟨hx, hb, hml, hown, hts⟩ (t_merase l D t G ak av h τ n q_28  hn hT T_29) ⟨cw9B 0 hts mw_565 mw_566 mw_32 rfl rfl (by decide +kernel) ⟨Nat.le_of_ble_eq_true rfl, Nat.le_of_ble_eq_true rfl⟩, hts _ mw_567, hts _ mw_568⟩ (hP_V (q := (R_Me, F_Me, 2)) kE_ok hE hK hH F_q_28 rfl) rfl rfl hl.1 rfl (lv_room (Nat.le_of_ble_eq_true rfl)) d_Di_compact_46 ⟨show 0 + 0 ≤ B by omega, show 0 + 0 ≤ 2048 * B by omega⟩) hLo (fun h_152 H_153 locs hp_155 hH z_154 hLo => ?_)
      have hz : s.heap.size ≤ H_153.size := Nat.le_trans hz z_154
      have hT0 := hT
      obtain ⟨hT, kf_157, xk_158⟩ := hp_155
      have F_x9 : h_152 x9 = some (.inr (8, [.ref v_1, .ref v_3, .ref v_5, .ref v_7, .ref q_28, .int v_11, .int v_12, .ref v_14, .ref v_16])) := kf_at kf_157 T_x9 (by decide) (tnc (by decide) (tnc (by decide) tn0)) nm0 F_x9
      have F_v_1 : h_152 v_1 = some (.inr (7, [.ref v_18, .ref v_20])) := kf_at kf_157 c_2 (by decide) (tnc (by decide) (tnc (by decide) tn0)) nm0 F_v_1
      have F_v_18 : h_152 v_18 = some (.inr (4, [.int v_22, .int v_23, .int v_25])) := kf_at kf_157 c_19 (by decide) (tnc (by decide) (tnc (by decide) tn0)) nm0 F_v_18
      have hnl : 0 + nl L h_152 ≤ bs9 := Nat.le_trans (Nat.add_le_add_left (nl_mono hL xk_158) _) hnl
      have hTr : ∀ P, τ P = (7, 0) → TrP t h_152 P := TrP_kf hT kf_157 (tnc (by decide) (tnc (by decide) tn0)) (tnc (by decide) (tnc (by decide) tn0)) (List.forall_mem_nil _) (knp_kf knp_rf kf_157 (tnc (by decide) (tnc (by decide) tn0)) (List.forall_mem_nil _)) hTr
      have hkf : kf τ [(13, 0), (12, 0), (11, 0), (3, 0), (5, 0), (10, 0), (9, 0), (1, 0)] [] h h_152 := kf_tr hkf kf_157 (List.forall_mem_cons.mpr ⟨List.mem_cons_self, List.forall_mem_cons.mpr ⟨(List.mem_cons_of_mem _ (List.mem_cons_of_mem _ List.mem_cons_self)), List.forall_mem_nil _⟩⟩) (List.forall_mem_nil _)
      refine lv_aload_n hx hb d_Di_compact_49 rfl (lv_at hl 0 rfl) ?_
      refine hm_get (ci := 8) (v := .ref v_1) (C := R_Di) (T := F_Di) (N := 9) hx hb hts ig_Di hown hK hH F_x9 rfl 0 (by decide) (hts _ mw_430) (fun _ h9 => h9) rfl d_Di_compact_50 ?_
      refine lv_aload_n hx hb d_Di_compact_53 rfl (lv_at hl 0 rfl) ?_
      refine hm_get (ci := 8) (v := .ref v_5) (C := R_Di) (T := F_Di) (N := 9) hx hb hts ig_Di hown hK hH F_x9 rfl 2 (by decide) (hts _ mw_443) (fun _ h9 => h9) rfl d_Di_compact_54 ?_
      refine lv_aload_n hx hb d_Di_compact_57 rfl (lv_at hl 0 rfl) ?_
      refine hm_get (ci := 8) (v := .ref v_7) (C := R_Di) (T := F_Di) (N := 9) hx hb hts ig_Di hown hK hH F_x9 rfl 3 (by decide) (hts _ mw_425) (fun _ h9 => h9) rfl d_Di_compact_58 ?_
      refine lv_aload_n hx hb d_Di_compact_61 rfl (lv_at hl 0 rfl) ?_
      refine hm_get (ci := 8) (v := .ref q_28) (C := R_Di) (T := F_Di) (N := 9) hx hb hts ig_Di hown hK hH F_x9 rfl 4 (by decide) (hts _ mw_559) (fun _ h9 => h9) rfl d_Di_compact_62 ?_
      refine hm_callDi (va_runVD (As := [.ref v_5, .ref v_7, .ref q_28]) (b := v_1) (rest := []) ⟨hx, hb, hml, hown, hts⟩ (t_allFiles l D t G ak av h_152 τ n 0 v_1 v_5 v_7 q_28 hn hT c_2 c_6 c_8 T_29 L (B - 0) hL hL2 (by omega)) ⟨cw9B 3 hts mw_569 mw_570 mw_275 rfl rfl (by decide +kernel) ⟨Nat.le_of_ble_eq_true rfl, Nat.le_of_ble_eq_true rfl⟩, hts _ mw_571, hts _ mw_572⟩ (hP_V (q := (R_Wr, F_Wr, 2)) kE_ok hE hK hH F_v_1 rfl) rfl rfl hl.1 rfl (lv_room (Nat.le_of_ble_eq_true rfl)) d_Di_compact_65 ⟨show 0 + (B - 0) ≤ B by omega, show 0 + 2048 * (B - 0) ≤ 2048 * B by omega⟩) hLo (fun r_159 h_160 H_161 locs k_164 n_165 hp_163 hH z_162 hLo => ?_)
      have hz : s.heap.size ≤ H_161.size := Nat.le_trans hz z_162
      obtain ⟨rfl, hnl2, hT, kf_166, xk_167⟩ := hp_163
      have F_x9 : h_160 x9 = some (.inr (8, [.ref v_1, .ref v_3, .ref v_5, .ref v_7, .ref q_28, .int v_11, .int v_12, .ref v_14, .ref v_16])) := kf_at kf_166 T_x9 (by decide) (tnc (by decide) (tnc (by decide) (tnc (by decide) (tnc (by decide) (tnc (by decide) tn0))))) nm0 F_x9
      have F_v_1 : h_160 v_1 = some (.inr (7, [.ref v_18, .ref v_20])) := kf_at kf_166 c_2 (by decide) (tnc (by decide) (tnc (by decide) (tnc (by decide) (tnc (by decide) (tnc (by decide) tn0))))) nm0 F_v_1
      have hnl : (0 + k_164) + nl L h_160 ≤ bs9 := by omega
      have hTr : ∀ P, τ P = (7, 0) → TrP t h_160 P := TrP_kf hT kf_166 (tnc (by decide) (tnc (by decide) (tnc (by decide) (tnc (by decide) (tnc (by decide) tn0))))) (tnc (by decide) (tnc (by decide) (tnc (by decide) (tnc (by decide) (tnc (by decide) tn0))))) (List.forall_mem_nil _) xk_167 hTr
      have hkf : kf τ [(13, 0), (12, 0), (11, 0), (3, 0), (5, 0), (10, 0), (9, 0), (1, 0)] [] h h_160 := kf_tr hkf kf_166 (List.forall_mem_cons.mpr ⟨List.mem_cons_self, List.forall_mem_cons.mpr ⟨(List.mem_cons_of_mem _ (List.mem_cons_of_mem _ List.mem_cons_self)), List.forall_mem_cons.mpr ⟨(List.mem_cons_of_mem _ (List.mem_cons_of_mem _ (List.mem_cons_of_mem _ List.mem_cons_self))), List.forall_mem_cons.mpr ⟨(List.mem_cons_of_mem _ (List.mem_cons_of_mem _ (List.mem_cons_of_mem _ (List.mem_cons_of_mem _ List.mem_cons_self)))), List.forall_mem_cons.mpr ⟨(List.mem_cons_of_mem _ (List.mem_cons_of_mem _ (List.mem_cons_of_mem _ (List.mem_cons_of_mem _ (List.mem_cons_of_mem _ List.mem_cons_self))))), List.forall_mem_nil _⟩⟩⟩⟩⟩) (List.forall_mem_nil _)
      refine lv_istore_n (lv' := [(1, .int r_159), (0, .ref x9)]) hx hb d_Di_compact_68 rfl hl (by decide) rfl (fun ls hl => ?_)
      refine lv_iload_n hx hb d_Di_compact_69 rfl (lv_at hl 0 rfl) ?_
      refine lv_iconst (v := 1) hx hb d_Di_compact_70 (by decide) ?_
      refine lv_icmp_ne (tgt := 91) hx hb d_Di_compact_71 (by decide) (fun hc_169 => ?_) (fun hc_169 => ?_)
      · skip
        refine lv_iload_n hx hb d_Di_compact_91 rfl (lv_at hl 0 rfl) ?_
        refine lv_iconst (v := 1) hx hb d_Di_compact_92 (by decide) ?_
        refine lv_icmp_eq (tgt := 98) hx hb d_Di_compact_93 (by decide) (fun hc_170 => ?_) (fun hc_170 => ?_)
        · skip
          have ic_171 : r_159.toInt = 1 := congrArg Int32.toInt hc_170
          refine lv_aload_n hx hb d_Di_compact_98 rfl (lv_at hl 1 rfl) ?_
          refine hm_get (ci := 8) (v := .ref v_7) (C := R_Di) (T := F_Di) (N := 9) hx hb hts ig_Di hown hK hH F_x9 rfl 3 (by decide) (hts _ mw_425) (fun _ h9 => h9) rfl d_Di_compact_99 ?_
          refine lv_astore_n (lv' := [(2, .ref v_7), (1, .int r_159), (0, .ref x9)]) hx hb d_Di_compact_102 rfl hl (by decide) rfl (fun ls hl => ?_)
          refine lv_aload_n hx hb d_Di_compact_103 rfl (lv_at hl 2 rfl) ?_
          refine lv_aload_n hx hb d_Di_compact_104 rfl (lv_at hl 2 rfl) ?_
          refine hm_get (ci := 8) (v := .ref q_28) (C := R_Di) (T := F_Di) (N := 9) hx hb hts ig_Di hown hK hH F_x9 rfl 4 (by decide) (hts _ mw_559) (fun _ h9 => h9) rfl d_Di_compact_105 ?_
          refine hm_put (ci := 8) (v := .ref q_28) (ty := (.object "WriteOnceDisc$Medium")) (C := R_Di) (T := F_Di) (N := 9) hx hb hts ig_Di t_Di tk_Di nm_Di hown hK hH hLo F_x9 rfl 3 (by decide) (hts _ mw_425) (fun _ h9 => h9) rfl (by decide +kernel) rfl rfl (Nat.le_of_ble_eq_true rfl) d_Di_compact_108 (fun H_172 locs hH z_173 hLo => ?_)
          have hz : s.heap.size ≤ H_172.size := by rw [z_173]; exact hz
          obtain ⟨h_174, e_175⟩ : ∃ z, z = hu h_160 x9 (.inr (8, [.ref v_1, .ref v_3, .ref v_5, .ref q_28, .ref q_28, .int v_11, .int v_12, .ref v_14, .ref v_16])) := ⟨_, rfl⟩
          have hH : hm D vwCl G h_174 H_172 := by rw [e_175]; exact hH
          have F_v_1 : h_174 v_1 = some (.inr (7, [.ref v_18, .ref v_20])) := by rw [e_175, hu_n (tne c_2 T_x9 (by decide))]; exact F_v_1
          have hOld := F_x9
          have F_x9 : h_174 x9 = some (.inr (8, [.ref v_1, .ref v_3, .ref v_5, .ref q_28, .ref q_28, .int v_11, .int v_12, .ref v_14, .ref v_16])) := by rw [e_175]; exact hu_s _ _ _
          have hT : TI τ t n h_174 := by rw [e_175]; exact TI_put hT T_x9 (by decide) ⟨v_1, v_3, v_5, q_28, some q_28, v_11, v_12, v_14, v_16, rfl, c_2, c_4, c_6, T_29, c_10, c_13, c_15, c_17⟩
          have hkf : kf τ [(13, 0), (12, 0), (11, 0), (3, 0), (5, 0), (10, 0), (9, 0), (1, 0)] [] h h_174 := by rw [e_175]; exact kf_put hkf T_x9 (List.mem_cons_of_mem _ (List.mem_cons_of_mem _ (List.mem_cons_of_mem _ (List.mem_cons_of_mem _ (List.mem_cons_of_mem _ (List.mem_cons_of_mem _ (List.mem_cons_of_mem _ List.mem_cons_self)))))))
          have hnl : (0 + k_164) + nl L h_174 ≤ bs9 := Nat.le_trans (Nat.add_le_add_left (nl_mono hL (by rw [e_175]; exact nlp_put2 nlp_rf (fun z => by have := z.symm.trans T_x9; simp at this))) _) hnl
          have hTr : ∀ P, τ P = (7, 0) → TrP t h_174 P := by rw [e_175] at hT ⊢; exact TrP_put hT (fun z => by have := z.symm.trans T_x9; simp at this) (fun z => by have := z.symm.trans T_x9; simp at this) (fun z => by have := z.symm.trans T_x9; simp at this) hTr
          refine lv_aload_n hx hb d_Di_compact_111 rfl (lv_at hl 2 rfl) ?_
          refine lv_aload_n hx hb d_Di_compact_112 rfl (lv_at hl 0 rfl) ?_
          refine hm_put (ci := 8) (v := .ref v_7) (ty := (.object "WriteOnceDisc$Medium")) (C := R_Di) (T := F_Di) (N := 9) hx hb hts ig_Di t_Di tk_Di nm_Di hown hK hH hLo F_x9 rfl 4 (by decide) (hts _ mw_559) (fun _ h9 => h9) rfl (by decide +kernel) rfl rfl (Nat.le_of_ble_eq_true rfl) d_Di_compact_113 (fun H_176 locs hH z_177 hLo => ?_)
          have hz : s.heap.size ≤ H_176.size := by rw [z_177]; exact hz
          obtain ⟨h_178, e_179⟩ : ∃ z, z = hu h_174 x9 (.inr (8, [.ref v_1, .ref v_3, .ref v_5, .ref q_28, .ref v_7, .int v_11, .int v_12, .ref v_14, .ref v_16])) := ⟨_, rfl⟩
          have hH : hm D vwCl G h_178 H_176 := by rw [e_179]; exact hH
          have F_v_1 : h_178 v_1 = some (.inr (7, [.ref v_18, .ref v_20])) := by rw [e_179, hu_n (tne c_2 T_x9 (by decide))]; exact F_v_1
          have hOld := F_x9
          have F_x9 : h_178 x9 = some (.inr (8, [.ref v_1, .ref v_3, .ref v_5, .ref q_28, .ref v_7, .int v_11, .int v_12, .ref v_14, .ref v_16])) := by rw [e_179]; exact hu_s _ _ _
          have hT : TI τ t n h_178 := by rw [e_179]; exact TI_put hT T_x9 (by decide) ⟨v_1, v_3, v_5, q_28, some v_7, v_11, v_12, v_14, v_16, rfl, c_2, c_4, c_6, T_29, (fun _ h9 => by cases h9; exact c_8), c_13, c_15, c_17⟩
          have hkf : kf τ [(13, 0), (12, 0), (11, 0), (3, 0), (5, 0), (10, 0), (9, 0), (1, 0)] [] h h_178 := by rw [e_179]; exact kf_put hkf T_x9 (List.mem_cons_of_mem _ (List.mem_cons_of_mem _ (List.mem_cons_of_mem _ (List.mem_cons_of_mem _ (List.mem_cons_of_mem _ (List.mem_cons_of_mem _ (List.mem_cons_of_mem _ List.mem_cons_self)))))))
          have hnl : (0 + k_164) + nl L h_178 ≤ bs9 := Nat.le_trans (Nat.add_le_add_left (nl_mono hL (by rw [e_179]; exact nlp_put2 nlp_rf (fun z => by have := z.symm.trans T_x9; simp at this))) _) hnl
          have hTr : ∀ P, τ P = (7, 0) → TrP t h_178 P := by rw [e_179] at hT ⊢; exact TrP_put hT (fun z => by have := z.symm.trans T_x9; simp at this) (fun z => by have := z.symm.trans T_x9; simp at this) (fun z => by have := z.symm.trans T_x9; simp at this) hTr
          refine lv_aload_n hx hb d_Di_compact_116 rfl (lv_at hl 2 rfl) ?_
          refine hm_get (ci := 8) (v := .ref v_5) (C := R_Di) (T := F_Di) (N := 9) hx hb hts ig_Di hown hK hH F_x9 rfl 2 (by decide) (hts _ mw_443) (fun _ h9 => h9) rfl d_Di_compact_117 ?_
          obtain ⟨v_180, v_182, v_184, v_186, F_v_5, c_181, c_183, c_185⟩ := TI_nds hT c_6
          refine hm_callv (va_runV (As := []) (b := v_5) (rest := []) ⟨hx, hb, hml, hown, hts⟩ (t_nssettle l D t G ak av h_178 τ n 0 v_5  hn hT c_6) ⟨cw9B 0 hts mw_573 mw_574 mw_132 rfl rfl (by decide +kernel) ⟨Nat.le_of_ble_eq_true rfl, Nat.le_of_ble_eq_true rfl⟩, hts _ mw_575, hts _ mw_576⟩ (hP_V (q := (R_Ns, F_Ns, 4)) kE_ok hE hK hH F_v_5 rfl) rfl rfl hl.1 rfl (lv_room (Nat.le_of_ble_eq_true rfl)) d_Di_compact_120 ⟨show (0 + k_164) + 0 ≤ B by omega, show (0 + 2048 * k_164) + 0 ≤ 2048 * B by omega⟩) hLo (fun h_187 H_188 locs hp_190 hH z_189 hLo => ?_)
          have hz : s.heap.size ≤ H_188.size := Nat.le_trans hz z_189
          have hT0 := hT
          obtain ⟨hT, kf_192, xk_193⟩ := hp_190
          have F_x9 : h_187 x9 = some (.inr (8, [.ref v_1, .ref v_3, .ref v_5, .ref q_28, .ref v_7, .int v_11, .int v_12, .ref v_14, .ref v_16])) := kf_at kf_192 T_x9 (by decide) (tnc (by decide) tn0) nm0 F_x9
          have F_v_1 : h_187 v_1 = some (.inr (7, [.ref v_18, .ref v_20])) := kf_at kf_192 c_2 (by decide) (tnc (by decide) tn0) nm0 F_v_1
          have F_v_5 : h_187 v_5 = some (.inr (2, [.ref v_180, .ref v_182, .int v_184, .int v_186])) := kf_at kf_192 c_6 (by decide) (tnc (by decide) tn0) nm0 F_v_5
          have hnl : (0 + k_164) + nl L h_187 ≤ bs9 := Nat.le_trans (Nat.add_le_add_left (nl_mono hL (nlp_kf nlp_rf kf_192 (tnc (by decide) tn0) (List.forall_mem_nil _))) _) hnl
          have hTr : ∀ P, τ P = (7, 0) → TrP t h_187 P := TrP_kf hT kf_192 (tnc (by decide) tn0) (tnc (by decide) tn0) (List.forall_mem_nil _) xk_193 hTr
          have hkf : kf τ [(13, 0), (12, 0), (11, 0), (3, 0), (5, 0), (10, 0), (9, 0), (1, 0)] [] h h_187 := kf_tr hkf kf_192 (List.forall_mem_cons.mpr ⟨(List.mem_cons_of_mem _ (List.mem_cons_of_mem _ (List.mem_cons_of_mem _ (List.mem_cons_of_mem _ (List.mem_cons_of_mem _ List.mem_cons_self))))), List.forall_mem_nil _⟩) (List.forall_mem_nil _)
          refine lv_aload_n hx hb d_Di_compact_123 rfl (lv_at hl 2 rfl) ?_
          refine lv_iconst (v := 0) hx hb d_Di_compact_124 (by decide) ?_
          refine hm_put (ci := 8) (v := .int 0) (ty := .boolean) (C := R_Di) (T := F_Di) (N := 9) hx hb hts ig_Di t_Di tk_Di nm_Di hown hK hH hLo F_x9 rfl 6 (by decide) (hts _ mw_450) (fun _ h9 => h9) rfl (by decide +kernel) (by decide) (by decide) (Nat.le_of_ble_eq_true rfl) d_Di_compact_125 (fun H_194 locs hH z_195 hLo => ?_)
          have hz : s.heap.size ≤ H_194.size := by rw [z_195]; exact hz
          obtain ⟨h_196, e_197⟩ : ∃ z, z = hu h_187 x9 (.inr (8, [.ref v_1, .ref v_3, .ref v_5, .ref q_28, .ref v_7, .int v_11, .int 0, .ref v_14, .ref v_16])) := ⟨_, rfl⟩
          have hH : hm D vwCl G h_196 H_194 := by rw [e_197]; exact hH
          have F_v_1 : h_196 v_1 = some (.inr (7, [.ref v_18, .ref v_20])) := by rw [e_197, hu_n (tne c_2 T_x9 (by decide))]; exact F_v_1
          have F_v_5 : h_196 v_5 = some (.inr (2, [.ref v_180, .ref v_182, .int v_184, .int v_186])) := by rw [e_197, hu_n (tne c_6 T_x9 (by decide))]; exact F_v_5
          have hOld := F_x9
          have F_x9 : h_196 x9 = some (.inr (8, [.ref v_1, .ref v_3, .ref v_5, .ref q_28, .ref v_7, .int v_11, .int 0, .ref v_14, .ref v_16])) := by rw [e_197]; exact hu_s _ _ _
          have hT : TI τ t n h_196 := by rw [e_197]; exact TI_put hT T_x9 (by decide) ⟨v_1, v_3, v_5, q_28, some v_7, v_11, 0, v_14, v_16, rfl, c_2, c_4, c_6, T_29, (fun _ h9 => by cases h9; exact c_8), zb0, c_15, c_17⟩
          have hkf : kf τ [(13, 0), (12, 0), (11, 0), (3, 0), (5, 0), (10, 0), (9, 0), (1, 0)] [] h h_196 := by rw [e_197]; exact kf_put hkf T_x9 (List.mem_cons_of_mem _ (List.mem_cons_of_mem _ (List.mem_cons_of_mem _ (List.mem_cons_of_mem _ (List.mem_cons_of_mem _ (List.mem_cons_of_mem _ (List.mem_cons_of_mem _ List.mem_cons_self)))))))
          have hnl : (0 + k_164) + nl L h_196 ≤ bs9 := Nat.le_trans (Nat.add_le_add_left (nl_mono hL (by rw [e_197]; exact nlp_put2 nlp_rf (fun z => by have := z.symm.trans T_x9; simp at this))) _) hnl
          have hTr : ∀ P, τ P = (7, 0) → TrP t h_196 P := by rw [e_197] at hT ⊢; exact TrP_put hT (fun z => by have := z.symm.trans T_x9; simp at this) (fun z => by have := z.symm.trans T_x9; simp at this) (fun z => by have := z.symm.trans T_x9; simp at this) hTr
          refine lv_aload_n hx hb d_Di_compact_128 rfl (lv_at hl 2 rfl) ?_
          refine lv_iconst (v := 1) hx hb d_Di_compact_129 (by decide) ?_
          refine hm_put (ci := 8) (v := .int 1) (ty := .int) (C := R_Di) (T := F_Di) (N := 9) hx hb hts ig_Di t_Di tk_Di nm_Di hown hK hH hLo F_x9 rfl 5 (by decide) (hts _ mw_490) (fun _ h9 => h9) rfl (by decide +kernel) rfl rfl (Nat.le_of_ble_eq_true rfl) d_Di_compact_130 (fun H_198 locs hH z_199 hLo => ?_)
          have hz : s.heap.size ≤ H_198.size := by rw [z_199]; exact hz
          obtain ⟨h_200, e_201⟩ : ∃ z, z = hu h_196 x9 (.inr (8, [.ref v_1, .ref v_3, .ref v_5, .ref q_28, .ref v_7, .int 1, .int 0, .ref v_14, .ref v_16])) := ⟨_, rfl⟩
          have hH : hm D vwCl G h_200 H_198 := by rw [e_201]; exact hH
          have F_v_1 : h_200 v_1 = some (.inr (7, [.ref v_18, .ref v_20])) := by rw [e_201, hu_n (tne c_2 T_x9 (by decide))]; exact F_v_1
          have F_v_5 : h_200 v_5 = some (.inr (2, [.ref v_180, .ref v_182, .int v_184, .int v_186])) := by rw [e_201, hu_n (tne c_6 T_x9 (by decide))]; exact F_v_5
          have hOld := F_x9
          have F_x9 : h_200 x9 = some (.inr (8, [.ref v_1, .ref v_3, .ref v_5, .ref q_28, .ref v_7, .int 1, .int 0, .ref v_14, .ref v_16])) := by rw [e_201]; exact hu_s _ _ _
          have hT : TI τ t n h_200 := by rw [e_201]; exact TI_put hT T_x9 (by decide) ⟨v_1, v_3, v_5, q_28, some v_7, 1, 0, v_14, v_16, rfl, c_2, c_4, c_6, T_29, (fun _ h9 => by cases h9; exact c_8), zb0, c_15, c_17⟩
          have hkf : kf τ [(13, 0), (12, 0), (11, 0), (3, 0), (5, 0), (10, 0), (9, 0), (1, 0)] [] h h_200 := by rw [e_201]; exact kf_put hkf T_x9 (List.mem_cons_of_mem _ (List.mem_cons_of_mem _ (List.mem_cons_of_mem _ (List.mem_cons_of_mem _ (List.mem_cons_of_mem _ (List.mem_cons_of_mem _ (List.mem_cons_of_mem _ List.mem_cons_self)))))))
          have hnl : (0 + k_164) + nl L h_200 ≤ bs9 := Nat.le_trans (Nat.add_le_add_left (nl_mono hL (by rw [e_201]; exact nlp_put2 nlp_rf (fun z => by have := z.symm.trans T_x9; simp at this))) _) hnl
          have hTr : ∀ P, τ P = (7, 0) → TrP t h_200 P := by rw [e_201] at hT ⊢; exact TrP_put hT (fun z => by have := z.symm.trans T_x9; simp at this) (fun z => by have := z.symm.trans T_x9; simp at this) (fun z => by have := z.symm.trans T_x9; simp at this) hTr
          refine lv_aload_n hx hb d_Di_compact_133 rfl (lv_at hl 2 rfl) ?_
          refine hm_get (ci := 8) (v := .int 1) (C := R_Di) (T := F_Di) (N := 9) hx hb hts ig_Di hown hK hH F_x9 rfl 5 (by decide) (hts _ mw_490) (fun _ h9 => h9) rfl d_Di_compact_134 ?_
          have hse : spz h_200 x9 = if (some v_7) = none then 402 else 0 := spz_of (v := (some v_7)) F_x9
          rw [if_neg (fun z => by cases z)] at hse
          refine W.toD ?_
          exact W.iret (v := 1) hx hb hr (fun t9 ht hW => ⟨1, h_200, rfl, ⟨(by omega), τ, L, htx, T_x9, hT, hU, hTr, hL, hL2, (by rw [← hbs]; omega)⟩, by rw [ht]; exact hH, by rw [ht]; exact hz⟩) hLo d_Di_compact_137
        · skip
          refine lv_iload_n hx hb d_Di_compact_96 rfl (lv_at hl 0 rfl) ?_
          have hse : spz h_160 x9 = if (some q_28) = none then 402 else 0 := spz_of (v := (some q_28)) F_x9
          rw [if_neg (fun z => by cases z)] at hse
          refine W.toD ?_
          exact W.iret (v := r_159) hx hb hr (fun t9 ht hW => ⟨r_159, h_160, rfl, ⟨(by omega), τ, L, htx, T_x9, hT, hU, hTr, hL, hL2, (by rw [← hbs]; omega)⟩, by rw [ht]; exact hH, by rw [ht]; exact hz⟩) hLo d_Di_compact_97
      · skip
        have ic_202 : r_159.toInt = 1 := congrArg Int32.toInt hc_169
        refine lv_aload_n hx hb d_Di_compact_74 rfl (lv_at hl 1 rfl) ?_
        refine hm_get (ci := 8) (v := .ref v_1) (C := R_Di) (T := F_Di) (N := 9) hx hb hts ig_Di hown hK hH F_x9 rfl 0 (by decide) (hts _ mw_430) (fun _ h9 => h9) rfl d_Di_compact_75 ?_
        refine lv_aload_n hx hb d_Di_compact_78 rfl (lv_at hl 1 rfl) ?_
        refine hm_get (ci := 8) (v := .ref v_5) (C := R_Di) (T := F_Di) (N := 9) hx hb hts ig_Di hown hK hH F_x9 rfl 2 (by decide) (hts _ mw_443) (fun _ h9 => h9) rfl d_Di_compact_79 ?_
        refine lv_aload_n hx hb d_Di_compact_82 rfl (lv_at hl 1 rfl) ?_
        refine hm_get (ci := 8) (v := .ref q_28) (C := R_Di) (T := F_Di) (N := 9) hx hb hts ig_Di hown hK hH F_x9 rfl 4 (by decide) (hts _ mw_559) (fun _ h9 => h9) rfl d_Di_compact_83 ?_
        refine lv_iconst (v := 1) hx hb d_Di_compact_86 (by decide) ?_
        refine hm_callDi (va_runVD (As := [.ref v_5, .ref q_28, .int 1]) (b := v_1) (rest := []) ⟨hx, hb, hml, hown, hts⟩ (t_wsess l D t G ak av h_160 τ n 0 v_1 v_5 q_28 1 hn hT c_2 c_6 T_29 L (B - (0 + k_164)) hL hL2 (by omega)) ⟨cw9B 3 hts mw_491 mw_492 mw_275 rfl rfl (by decide +kernel) ⟨Nat.le_of_ble_eq_true rfl, Nat.le_of_ble_eq_true rfl⟩, hts _ mw_493, hts _ mw_494⟩ (hP_V (q := (R_Wr, F_Wr, 2)) kE_ok hE hK hH F_v_1 rfl) rfl rfl hl.1 rfl (lv_room (Nat.le_of_ble_eq_true rfl)) d_Di_compact_87 ⟨show (0 + k_164) + (B - (0 + k_164)) ≤ B by omega, show (0 + 2048 * k_164) + 2048 * (B - (0 + k_164)) ≤ 2048 * B by omega⟩) hLo (fun r_203 h_204 H_205 locs k_208 n_209 hp_207 hH z_206 hLo => ?_)
        have hz : s.heap.size ≤ H_205.size := Nat.le_trans hz z_206
        obtain ⟨rfl, hnl2, hT, kf_210, xk_211⟩ := hp_207
        have F_x9 : h_204 x9 = some (.inr (8, [.ref v_1, .ref v_3, .ref v_5, .ref v_7, .ref q_28, .int v_11, .int v_12, .ref v_14, .ref v_16])) := kf_at kf_210 T_x9 (by decide) (tnc (by decide) (tnc (by decide) (tnc (by decide) (tnc (by decide) (tnc (by decide) (tnc (by decide) tn0)))))) nm0 F_x9
        have F_v_1 : h_204 v_1 = some (.inr (7, [.ref v_18, .ref v_20])) := kf_at kf_210 c_2 (by decide) (tnc (by decide) (tnc (by decide) (tnc (by decide) (tnc (by decide) (tnc (by decide) (tnc (by decide) tn0)))))) nm0 F_v_1
        have hnl : ((0 + k_164) + k_208) + nl L h_204 ≤ bs9 := by omega
        have hTr : ∀ P, τ P = (7, 0) → TrP t h_204 P := TrP_kf hT kf_210 (tnc (by decide) (tnc (by decide) (tnc (by decide) (tnc (by decide) (tnc (by decide) (tnc (by decide) tn0)))))) (tnc (by decide) (tnc (by decide) (tnc (by decide) (tnc (by decide) (tnc (by decide) (tnc (by decide) tn0)))))) (List.forall_mem_nil _) xk_211 hTr
        have hkf : kf τ [(13, 0), (12, 0), (11, 0), (3, 0), (5, 0), (10, 0), (9, 0), (1, 0)] [] h h_204 := kf_tr hkf kf_210 (List.forall_mem_cons.mpr ⟨List.mem_cons_self, List.forall_mem_cons.mpr ⟨(List.mem_cons_of_mem _ (List.mem_cons_of_mem _ List.mem_cons_self)), List.forall_mem_cons.mpr ⟨(List.mem_cons_of_mem _ (List.mem_cons_of_mem _ (List.mem_cons_of_mem _ List.mem_cons_self))), List.forall_mem_cons.mpr ⟨(List.mem_cons_of_mem _ (List.mem_cons_of_mem _ (List.mem_cons_of_mem _ (List.mem_cons_of_mem _ List.mem_cons_self)))), List.forall_mem_cons.mpr ⟨(List.mem_cons_of_mem _ (List.mem_cons_of_mem _ (List.mem_cons_of_mem _ (List.mem_cons_of_mem _ (List.mem_cons_of_mem _ List.mem_cons_self))))), List.forall_mem_cons.mpr ⟨(List.mem_cons_of_mem _ (List.mem_cons_of_mem _ (List.mem_cons_of_mem _ (List.mem_cons_of_mem _ (List.mem_cons_of_mem _ (List.mem_cons_of_mem _ List.mem_cons_self)))))), List.forall_mem_nil _⟩⟩⟩⟩⟩⟩) (List.forall_mem_nil _)
        refine lv_istore_n (lv' := [(1, .int r_203), (0, .ref x9)]) hx hb d_Di_compact_90 rfl hl (by decide) rfl (fun ls hl => ?_)
        refine lv_iload_n hx hb d_Di_compact_91 rfl (lv_at hl 0 rfl) ?_
        refine lv_iconst (v := 1) hx hb d_Di_compact_92 (by decide) ?_
        refine lv_icmp_eq (tgt := 98) hx hb d_Di_compact_93 (by decide) (fun hc_213 => ?_) (fun hc_213 => ?_)
        · skip
          have ic_214 : r_203.toInt = 1 := congrArg Int32.toInt hc_213
          refine lv_aload_n hx hb d_Di_compact_98 rfl (lv_at hl 1 rfl) ?_
          refine hm_get (ci := 8) (v := .ref v_7) (C := R_Di) (T := F_Di) (N := 9) hx hb hts ig_Di hown hK hH F_x9 rfl 3 (by decide) (hts _ mw_425) (fun _ h9 => h9) rfl d_Di_compact_99 ?_
          refine lv_astore_n (lv' := [(2, .ref v_7), (1, .int r_203), (0, .ref x9)]) hx hb d_Di_compact_102 rfl hl (by decide) rfl (fun ls hl => ?_)
          refine lv_aload_n hx hb d_Di_compact_103 rfl (lv_at hl 2 rfl) ?_
          refine lv_aload_n hx hb d_Di_compact_104 rfl (lv_at hl 2 rfl) ?_
          refine hm_get (ci := 8) (v := .ref q_28) (C := R_Di) (T := F_Di) (N := 9) hx hb hts ig_Di hown hK hH F_x9 rfl 4 (by decide) (hts _ mw_559) (fun _ h9 => h9) rfl d_Di_compact_105 ?_
          refine hm_put (ci := 8) (v := .ref q_28) (ty := (.object "WriteOnceDisc$Medium")) (C := R_Di) (T := F_Di) (N := 9) hx hb hts ig_Di t_Di tk_Di nm_Di hown hK hH hLo F_x9 rfl 3 (by decide) (hts _ mw_425) (fun _ h9 => h9) rfl (by decide +kernel) rfl rfl (Nat.le_of_ble_eq_true rfl) d_Di_compact_108 (fun H_215 locs hH z_216 hLo => ?_)
          have hz : s.heap.size ≤ H_215.size := by rw [z_216]; exact hz
          obtain ⟨h_217, e_218⟩ : ∃ z, z = hu h_204 x9 (.inr (8, [.ref v_1, .ref v_3, .ref v_5, .ref q_28, .ref q_28, .int v_11, .int v_12, .ref v_14, .ref v_16])) := ⟨_, rfl⟩
          have hH : hm D vwCl G h_217 H_215 := by rw [e_218]; exact hH
          have F_v_1 : h_217 v_1 = some (.inr (7, [.ref v_18, .ref v_20])) := by rw [e_218, hu_n (tne c_2 T_x9 (by decide))]; exact F_v_1
          have hOld := F_x9
          have F_x9 : h_217 x9 = some (.inr (8, [.ref v_1, .ref v_3, .ref v_5, .ref q_28, .ref q_28, .int v_11, .int v_12, .ref v_14, .ref v_16])) := by rw [e_218]; exact hu_s _ _ _
          have hT : TI τ t n h_217 := by rw [e_218]; exact TI_put hT T_x9 (by decide) ⟨v_1, v_3, v_5, q_28, some q_28, v_11, v_12, v_14, v_16, rfl, c_2, c_4, c_6, T_29, c_10, c_13, c_15, c_17⟩
          have hkf : kf τ [(13, 0), (12, 0), (11, 0), (3, 0), (5, 0), (10, 0), (9, 0), (1, 0)] [] h h_217 := by rw [e_218]; exact kf_put hkf T_x9 (List.mem_cons_of_mem _ (List.mem_cons_of_mem _ (List.mem_cons_of_mem _ (List.mem_cons_of_mem _ (List.mem_cons_of_mem _ (List.mem_cons_of_mem _ (List.mem_cons_of_mem _ List.mem_cons_self)))))))
          have hnl : ((0 + k_164) + k_208) + nl L h_217 ≤ bs9 := Nat.le_trans (Nat.add_le_add_left (nl_mono hL (by rw [e_218]; exact nlp_put2 nlp_rf (fun z => by have := z.symm.trans T_x9; simp at this))) _) hnl
          have hTr : ∀ P, τ P = (7, 0) → TrP t h_217 P := by rw [e_218] at hT ⊢; exact TrP_put hT (fun z => by have := z.symm.trans T_x9; simp at this) (fun z => by have := z.symm.trans T_x9; simp at this) (fun z => by have := z.symm.trans T_x9; simp at this) hTr
          refine lv_aload_n hx hb d_Di_compact_111 rfl (lv_at hl 2 rfl) ?_
          refine lv_aload_n hx hb d_Di_compact_112 rfl (lv_at hl 0 rfl) ?_
          refine hm_put (ci := 8) (v := .ref v_7) (ty := (.object "WriteOnceDisc$Medium")) (C := R_Di) (T := F_Di) (N := 9) hx hb hts ig_Di t_Di tk_Di nm_Di hown hK hH hLo F_x9 rfl 4 (by decide) (hts _ mw_559) (fun _ h9 => h9) rfl (by decide +kernel) rfl rfl (Nat.le_of_ble_eq_true rfl) d_Di_compact_113 (fun H_219 locs hH z_220 hLo => ?_)
          have hz : s.heap.size ≤ H_219.size := by rw [z_220]; exact hz
          obtain ⟨h_221, e_222⟩ : ∃ z, z = hu h_217 x9 (.inr (8, [.ref v_1, .ref v_3, .ref v_5, .ref q_28, .ref v_7, .int v_11, .int v_12, .ref v_14, .ref v_16])) := ⟨_, rfl⟩
          have hH : hm D vwCl G h_221 H_219 := by rw [e_222]; exact hH
          have F_v_1 : h_221 v_1 = some (.inr (7, [.ref v_18, .ref v_20])) := by rw [e_222, hu_n (tne c_2 T_x9 (by decide))]; exact F_v_1
          have hOld := F_x9
          have F_x9 : h_221 x9 = some (.inr (8, [.ref v_1, .ref v_3, .ref v_5, .ref q_28, .ref v_7, .int v_11, .int v_12, .ref v_14, .ref v_16])) := by rw [e_222]; exact hu_s _ _ _
          have hT : TI τ t n h_221 := by rw [e_222]; exact TI_put hT T_x9 (by decide) ⟨v_1, v_3, v_5, q_28, some v_7, v_11, v_12, v_14, v_16, rfl, c_2, c_4, c_6, T_29, (fun _ h9 => by cases h9; exact c_8), c_13, c_15, c_17⟩
          have hkf : kf τ [(13, 0), (12, 0), (11, 0), (3, 0), (5, 0), (10, 0), (9, 0), (1, 0)] [] h h_221 := by rw [e_222]; exact kf_put hkf T_x9 (List.mem_cons_of_mem _ (List.mem_cons_of_mem _ (List.mem_cons_of_mem _ (List.mem_cons_of_mem _ (List.mem_cons_of_mem _ (List.mem_cons_of_mem _ (List.mem_cons_of_mem _ List.mem_cons_self)))))))
          have hnl : ((0 + k_164) + k_208) + nl L h_221 ≤ bs9 := Nat.le_trans (Nat.add_le_add_left (nl_mono hL (by rw [e_222]; exact nlp_put2 nlp_rf (fun z => by have := z.symm.trans T_x9; simp at this))) _) hnl
          have hTr : ∀ P, τ P = (7, 0) → TrP t h_221 P := by rw [e_222] at hT ⊢; exact TrP_put hT (fun z => by have := z.symm.trans T_x9; simp at this) (fun z => by have := z.symm.trans T_x9; simp at this) (fun z => by have := z.symm.trans T_x9; simp at this) hTr
          refine lv_aload_n hx hb d_Di_compact_116 rfl (lv_at hl 2 rfl) ?_
          refine hm_get (ci := 8) (v := .ref v_5) (C := R_Di) (T := F_Di) (N := 9) hx hb hts ig_Di hown hK hH F_x9 rfl 2 (by decide) (hts _ mw_443) (fun _ h9 => h9) rfl d_Di_compact_117 ?_
          obtain ⟨v_223, v_225, v_227, v_229, F_v_5, c_224, c_226, c_228⟩ := TI_nds hT c_6
          refine hm_callv (va_runV (As := []) (b := v_5) (rest := []) ⟨hx, hb, hml, hown, hts⟩ (t_nssettle l D t G ak av h_221 τ n 0 v_5  hn hT c_6) ⟨cw9B 0 hts mw_573 mw_574 mw_132 rfl rfl (by decide +kernel) ⟨Nat.le_of_ble_eq_true rfl, Nat.le_of_ble_eq_true rfl⟩, hts _ mw_575, hts _ mw_576⟩ (hP_V (q := (R_Ns, F_Ns, 4)) kE_ok hE hK hH F_v_5 rfl) rfl rfl hl.1 rfl (lv_room (Nat.le_of_ble_eq_true rfl)) d_Di_compact_120 ⟨show ((0 + k_164) + k_208) + 0 ≤ B by omega, show ((0 + 2048 * k_164) + 2048 * k_208) + 0 ≤ 2048 * B by omega⟩) hLo (fun h_230 H_231 locs hp_233 hH z_232 hLo => ?_)
          have hz : s.heap.size ≤ H_231.size := Nat.le_trans hz z_232
          have hT0 := hT
          obtain ⟨hT, kf_235, xk_236⟩ := hp_233
          have F_x9 : h_230 x9 = some (.inr (8, [.ref v_1, .ref v_3, .ref v_5, .ref q_28, .ref v_7, .int v_11, .int v_12, .ref v_14, .ref v_16])) := kf_at kf_235 T_x9 (by decide) (tnc (by decide) tn0) nm0 F_x9
          have F_v_1 : h_230 v_1 = some (.inr (7, [.ref v_18, .ref v_20])) := kf_at kf_235 c_2 (by decide) (tnc (by decide) tn0) nm0 F_v_1
          have F_v_5 : h_230 v_5 = some (.inr (2, [.ref v_223, .ref v_225, .int v_227, .int v_229])) := kf_at kf_235 c_6 (by decide) (tnc (by decide) tn0) nm0 F_v_5
          have hnl : ((0 + k_164) + k_208) + nl L h_230 ≤ bs9 := Nat.le_trans (Nat.add_le_add_left (nl_mono hL (nlp_kf nlp_rf kf_235 (tnc (by decide) tn0) (List.forall_mem_nil _))) _) hnl
          have hTr : ∀ P, τ P = (7, 0) → TrP t h_230 P := TrP_kf hT kf_235 (tnc (by decide) tn0) (tnc (by decide) tn0) (List.forall_mem_nil _) xk_236 hTr
          have hkf : kf τ [(13, 0), (12, 0), (11, 0), (3, 0), (5, 0), (10, 0), (9, 0), (1, 0)] [] h h_230 := kf_tr hkf kf_235 (List.forall_mem_cons.mpr ⟨(List.mem_cons_of_mem _ (List.mem_cons_of_mem _ (List.mem_cons_of_mem _ (List.mem_cons_of_mem _ (List.mem_cons_of_mem _ List.mem_cons_self))))), List.forall_mem_nil _⟩) (List.forall_mem_nil _)
          refine lv_aload_n hx hb d_Di_compact_123 rfl (lv_at hl 2 rfl) ?_
          refine lv_iconst (v := 0) hx hb d_Di_compact_124 (by decide) ?_
          refine hm_put (ci := 8) (v := .int 0) (ty := .boolean) (C := R_Di) (T := F_Di) (N := 9) hx hb hts ig_Di t_Di tk_Di nm_Di hown hK hH hLo F_x9 rfl 6 (by decide) (hts _ mw_450) (fun _ h9 => h9) rfl (by decide +kernel) (by decide) (by decide) (Nat.le_of_ble_eq_true rfl) d_Di_compact_125 (fun H_237 locs hH z_238 hLo => ?_)
          have hz : s.heap.size ≤ H_237.size := by rw [z_238]; exact hz
          obtain ⟨h_239, e_240⟩ : ∃ z, z = hu h_230 x9 (.inr (8, [.ref v_1, .ref v_3, .ref v_5, .ref q_28, .ref v_7, .int v_11, .int 0, .ref v_14, .ref v_16])) := ⟨_, rfl⟩
          have hH : hm D vwCl G h_239 H_237 := by rw [e_240]; exact hH
          have F_v_1 : h_239 v_1 = some (.inr (7, [.ref v_18, .ref v_20])) := by rw [e_240, hu_n (tne c_2 T_x9 (by decide))]; exact F_v_1
          have F_v_5 : h_239 v_5 = some (.inr (2, [.ref v_223, .ref v_225, .int v_227, .int v_229])) := by rw [e_240, hu_n (tne c_6 T_x9 (by decide))]; exact F_v_5
          have hOld := F_x9
          have F_x9 : h_239 x9 = some (.inr (8, [.ref v_1, .ref v_3, .ref v_5, .ref q_28, .ref v_7, .int v_11, .int 0, .ref v_14, .ref v_16])) := by rw [e_240]; exact hu_s _ _ _
          have hT : TI τ t n h_239 := by rw [e_240]; exact TI_put hT T_x9 (by decide) ⟨v_1, v_3, v_5, q_28, some v_7, v_11, 0, v_14, v_16, rfl, c_2, c_4, c_6, T_29, (fun _ h9 => by cases h9; exact c_8), zb0, c_15, c_17⟩
          have hkf : kf τ [(13, 0), (12, 0), (11, 0), (3, 0), (5, 0), (10, 0), (9, 0), (1, 0)] [] h h_239 := by rw [e_240]; exact kf_put hkf T_x9 (List.mem_cons_of_mem _ (List.mem_cons_of_mem _ (List.mem_cons_of_mem _ (List.mem_cons_of_mem _ (List.mem_cons_of_mem _ (List.mem_cons_of_mem _ (List.mem_cons_of_mem _ List.mem_cons_self)))))))
          have hnl : ((0 + k_164) + k_208) + nl L h_239 ≤ bs9 := Nat.le_trans (Nat.add_le_add_left (nl_mono hL (by rw [e_240]; exact nlp_put2 nlp_rf (fun z => by have := z.symm.trans T_x9; simp at this))) _) hnl
          have hTr : ∀ P, τ P = (7, 0) → TrP t h_239 P := by rw [e_240] at hT ⊢; exact TrP_put hT (fun z => by have := z.symm.trans T_x9; simp at this) (fun z => by have := z.symm.trans T_x9; simp at this) (fun z => by have := z.symm.trans T_x9; simp at this) hTr
          refine lv_aload_n hx hb d_Di_compact_128 rfl (lv_at hl 2 rfl) ?_
          refine lv_iconst (v := 1) hx hb d_Di_compact_129 (by decide) ?_
          refine hm_put (ci := 8) (v := .int 1) (ty := .int) (C := R_Di) (T := F_Di) (N := 9) hx hb hts ig_Di t_Di tk_Di nm_Di hown hK hH hLo F_x9 rfl 5 (by decide) (hts _ mw_490) (fun _ h9 => h9) rfl (by decide +kernel) rfl rfl (Nat.le_of_ble_eq_true rfl) d_Di_compact_130 (fun H_241 locs hH z_242 hLo => ?_)
          have hz : s.heap.size ≤ H_241.size := by rw [z_242]; exact hz
          obtain ⟨h_243, e_244⟩ : ∃ z, z = hu h_239 x9 (.inr (8, [.ref v_1, .ref v_3, .ref v_5, .ref q_28, .ref v_7, .int 1, .int 0, .ref v_14, .ref v_16])) := ⟨_, rfl⟩
          have hH : hm D vwCl G h_243 H_241 := by rw [e_244]; exact hH
          have F_v_1 : h_243 v_1 = some (.inr (7, [.ref v_18, .ref v_20])) := by rw [e_244, hu_n (tne c_2 T_x9 (by decide))]; exact F_v_1
          have F_v_5 : h_243 v_5 = some (.inr (2, [.ref v_223, .ref v_225, .int v_227, .int v_229])) := by rw [e_244, hu_n (tne c_6 T_x9 (by decide))]; exact F_v_5
          have hOld := F_x9
          have F_x9 : h_243 x9 = some (.inr (8, [.ref v_1, .ref v_3, .ref v_5, .ref q_28, .ref v_7, .int 1, .int 0, .ref v_14, .ref v_16])) := by rw [e_244]; exact hu_s _ _ _
          have hT : TI τ t n h_243 := by rw [e_244]; exact TI_put hT T_x9 (by decide) ⟨v_1, v_3, v_5, q_28, some v_7, 1, 0, v_14, v_16, rfl, c_2, c_4, c_6, T_29, (fun _ h9 => by cases h9; exact c_8), zb0, c_15, c_17⟩
          have hkf : kf τ [(13, 0), (12, 0), (11, 0), (3, 0), (5, 0), (10, 0), (9, 0), (1, 0)] [] h h_243 := by rw [e_244]; exact kf_put hkf T_x9 (List.mem_cons_of_mem _ (List.mem_cons_of_mem _ (List.mem_cons_of_mem _ (List.mem_cons_of_mem _ (List.mem_cons_of_mem _ (List.mem_cons_of_mem _ (List.mem_cons_of_mem _ List.mem_cons_self)))))))
          have hnl : ((0 + k_164) + k_208) + nl L h_243 ≤ bs9 := Nat.le_trans (Nat.add_le_add_left (nl_mono hL (by rw [e_244]; exact nlp_put2 nlp_rf (fun z => by have := z.symm.trans T_x9; simp at this))) _) hnl
          have hTr : ∀ P, τ P = (7, 0) → TrP t h_243 P := by rw [e_244] at hT ⊢; exact TrP_put hT (fun z => by have := z.symm.trans T_x9; simp at this) (fun z => by have := z.symm.trans T_x9; simp at this) (fun z => by have := z.symm.trans T_x9; simp at this) hTr
          refine lv_aload_n hx hb d_Di_compact_133 rfl (lv_at hl 2 rfl) ?_
          refine hm_get (ci := 8) (v := .int 1) (C := R_Di) (T := F_Di) (N := 9) hx hb hts ig_Di hown hK hH F_x9 rfl 5 (by decide) (hts _ mw_490) (fun _ h9 => h9) rfl d_Di_compact_134 ?_
          have hse : spz h_243 x9 = if (some v_7) = none then 402 else 0 := spz_of (v := (some v_7)) F_x9
          rw [if_neg (fun z => by cases z)] at hse
          refine W.toD ?_
          exact W.iret (v := 1) hx hb hr (fun t9 ht hW => ⟨1, h_243, rfl, ⟨(by omega), τ, L, htx, T_x9, hT, hU, hTr, hL, hL2, (by rw [← hbs]; omega)⟩, by rw [ht]; exact hH, by rw [ht]; exact hz⟩) hLo d_Di_compact_137
        · skip
          refine lv_iload_n hx hb d_Di_compact_96 rfl (lv_at hl 0 rfl) ?_
          have hse : spz h_204 x9 = if (some q_28) = none then 402 else 0 := spz_of (v := (some q_28)) F_x9
          rw [if_neg (fun z => by cases z)] at hse
          refine W.toD ?_
          exact W.iret (v := r_203) hx hb hr (fun t9 ht hW => ⟨r_203, h_204, rfl, ⟨(by omega), τ, L, htx, T_x9, hT, hU, hTr, hL, hL2, (by rw [← hbs]; omega)⟩, by rw [ht]; exact hH, by rw [ht]; exact hz⟩) hLo d_Di_compact_97
  · skip
    refine lv_bipush (v := -4) hx hb d_Di_compact_13 (by decide) ?_
    have hse : spz h x9 = if v_9 = none then 402 else 0 := spz_of (v := v_9) F_x9
    rw [← hsz] at hse
    refine W.toD ?_
    exact W.iret (v := (-4)) hx hb hr (fun t9 ht hW => ⟨(-4), h, rfl, ⟨(by omega), τ, L, htx, T_x9, hT, hU, hTr, hL, hL2, (by rw [← hbs]; omega)⟩, by rw [ht]; exact hH, by rw [ht]; exact hz⟩) hLo d_Di_compact_15
