/-! MY OWN ROWS: the heap as a function. 'hm D cl G h H': at each address a with h a = some e the heap H has the cell e; all these addresses lie behind the old heap G, which is as it was. A write changes h at one address ('hu'); no list, no places, no frame rule: a contract speaks of every h. -/
abbrev hM : Type := Nat → Option va_E
def hu (h : hM) (a : Nat) (e : va_E) : hM := fun q => if q = a then some e else h q
theorem hu_s (h : hM) (a : Nat) (e : va_E) : hu h a e a = some e := if_pos rfl
theorem hu_n {h : hM} {a b : Nat} {e : va_E} (n : b ≠ a) : hu h a e b = h b := if_neg n
/-- the old heap, and which addresses may be written: all behind it, and perhaps some in it -/
abbrev hG : Type := { g : Heap × (Nat → Prop) // ∀ q : Nat, g.1.size ≤ q → g.2 q }
abbrev hG.H (G : hG) : Heap := G.1.1
abbrev hG.P (G : hG) : Nat → Prop := G.1.2
theorem hG.up (G : hG) : ∀ q : Nat, G.H.size ≤ q → G.P q := G.2
def hm (D : va_G) (cl : List vw_C) (G : hG) (h : hM) (H : Heap) : Prop := (G.H.size ≤ H.size ∧ ∀ q : Nat, ¬ G.P q → H[q]? = G.H[q]?) ∧ ∀ (a : Nat) (e : va_E), h a = some e → G.P a ∧ va_at D cl (a, e) H
def hLc (B : Nat → Prop) (locs : List Loc) : Prop := ∀ q ∈ locs, B q.base
theorem hLc_nil {B : Nat → Prop} : hLc B [] := fun _ h => by cases h
theorem hLc_put {B : Nat → Prop} {a k : Nat} {locs : List Loc} (h : hLc B locs) (ha : B a) : hLc B (locs ++ [⟨a, k⟩]) := by
  intro q hq
  rcases List.mem_append.mp hq with h1 | h1
  · exact h q h1
  · rw [List.mem_singleton.mp h1]
    exact ha
theorem hLc_app {B : Nat → Prop} {locs L : List Loc} (h : hLc B locs) (h2 : ∀ q ∈ L, B q.base) : hLc B (locs ++ L) := by
  intro q hq
  rcases List.mem_append.mp hq with h1 | h1
  · exact h q h1
  · exact h2 q h1
theorem hm.at {D : va_G} {cl : List vw_C} {G : hG} {h : hM} {H : Heap} {a : Nat} {e : va_E} (hH : hm D cl G h H) (ha : h a = some e) : va_at D cl (a, e) H := (hH.2 a e ha).2
theorem hm.one {D : va_G} {cl : List vw_C} {G : hG} {h : hM} {H : Heap} {a : Nat} {e : va_E} (hH : hm D cl G h H) (ha : h a = some e) : va_P D cl [(a, e)] H := by
  intro k q hk
  cases k with
  | zero => cases hk; exact hH.at ha
  | succ k => cases hk
theorem hm.lt {D : va_G} {cl : List vw_C} {G : hG} {h : hM} {H : Heap} {a : Nat} {e : va_E} (hH : hm D cl G h H) (ha : h a = some e) : a < H.size := (hH.at ha).lt
theorem hm.ge {D : va_G} {cl : List vw_C} {G : hG} {h : hM} {H : Heap} {a : Nat} {e : va_E} (hH : hm D cl G h H) (ha : h a = some e) : G.P a := (hH.2 a e ha).1
theorem hm.fresh {D : va_G} {cl : List vw_C} {G : hG} {h : hM} {H : Heap} {a : Nat} {e : va_E} (hH : hm D cl G h H) (ha : h a = some e) : a ≠ H.size := Nat.ne_of_lt (hH.lt ha)
theorem hm.set {D : va_G} {cl : List vw_C} {G : hG} {h : hM} {H H1 : Heap} {a : Nat} {e : va_E} (hH : hm D cl G h H) (hB : G.P a) (he : va_at D cl (a, e) H1) (z : H1.size = H.size) (oq : ∀ q : Nat, q ≠ a → H1[q]? = H[q]?) : hm D cl G (hu h a e) H1 := by
  refine ⟨⟨by rw [z]; exact hH.1.1, fun q hq => by rw [oq q (fun z9 => by rw [z9] at hq; exact hq hB)]; exact hH.1.2 q hq⟩, fun b f hb => ?_⟩
  by_cases hba : b = a
  · subst hba
    rw [hu_s] at hb
    cases hb
    exact ⟨hB, he⟩
  · rw [hu_n hba] at hb
    exact ⟨(hH.2 b f hb).1, (hH.2 b f hb).2.kept (oq b hba)⟩
theorem hm.push {D : va_G} {cl : List vw_C} {G : hG} {h : hM} {H H1 : Heap} {e : va_E} (hH : hm D cl G h H) (he : va_at D cl (H.size, e) H1) (z : H1.size = H.size + 1) (oq : ∀ q : Nat, q < H.size → H1[q]? = H[q]?) : hm D cl G (hu h H.size e) H1 := by
  refine ⟨⟨by rw [z]; exact Nat.le_succ_of_le hH.1.1, fun q hq => by rw [oq q (Nat.lt_of_lt_of_le (Nat.not_le.mp (fun z9 => hq (G.up q z9))) hH.1.1)]; exact hH.1.2 q hq⟩, fun b f hb => ?_⟩
  by_cases hba : b = H.size
  · subst hba
    rw [hu_s] at hb
    cases hb
    exact ⟨G.up _ hH.1.1, he⟩
  · rw [hu_n hba] at hb
    exact ⟨(hH.2 b f hb).1, (hH.2 b f hb).2.kept (oq b (hH.lt hb))⟩
theorem hm.sub {D : va_G} {cl : List vw_C} {G : hG} {h h' : hM} {H : Heap} (hH : hm D cl G h H) (hs : ∀ (a : Nat) (e : va_E), h' a = some e → h a = some e) : hm D cl G h' H := ⟨hH.1, fun a e ha => hH.2 a e (hs a e ha)⟩
/-- cells of unlike sorts lie apart -/
theorem h_ne {h : hM} {a b : Nat} {e f : va_E} (ha : h a = some e) (hb : h b = some f) (n : e ≠ f) : a ≠ b := fun q => n (by rw [q, hb] at ha; exact (Option.some.inj ha).symm)
theorem h_neC {h : hM} {a b c1 c2 : Nat} {f1 f2 : List Value} (ha : h a = some (.inr (c1, f1))) (hb : h b = some (.inr (c2, f2))) (n : c1 ≠ c2) : a ≠ b := h_ne ha hb (fun q => n (congrArg Prod.fst (Sum.inr.inj q)))
theorem h_neA {h : hM} {a b c2 : Nat} {x : ClassId × vp_A} {f2 : List Value} (ha : h a = some (.inl x)) (hb : h b = some (.inr (c2, f2))) : a ≠ b := h_ne ha hb (fun q => by cases q)
section HMW
variable {p : Program} {l : Launch} {e : Env} {R : Room} {s : State} {m : MethodId} {args : Array Value} {below : List Frame} {meth : Method} {c : Code} {H : Heap} {locs : List Loc} {cells slots : Nat} {Q : State → Prop}
variable {cc : ByteArray} {pc : Nat} {ls : Array Slot} {rest : List Value} {D : va_G} {cl : List vw_C} {a : Nat} {tys : List (ClassId × FieldType)} {G : hG} {h : hM}
theorem hm_get (hexec : p.tables.exec = Jvm.exec) (hb : c.code = cc) {own ref C : String} {T : u_T} {N ci index : Nat} {Ts : List Cond} (hts : ∀ w ∈ Ts, w.before args s = true) (hin : ∀ w ∈ u_ws C T N, w ∈ Ts) (hown : s.vm.findClass own = some m.cls) (hK : va_K D cl tys s) (hH : hm D cl G h H) {fs : List Value} (he : h a = some (.inr (ci, fs))) (hc : cl[ci]? = some (C, T, N)) (k : Nat) (hk : k < N) (hlink : (Cond.fieldLink own index ref (T k).2.1 (T k).2.2.1).before args s = true) (hsame : ∀ x, s.fieldFound? (T k).1 (T k).2.1 (T k).2.2.1 = some x → s.fieldFound? ref (T k).2.1 (T k).2.2.1 = some x) {v : Value} (hv : fs[k]? = some v) (hdg : decode cc pc = .ok (.getfield index, 3))
    (kk : W p l e R s m args below meth c H locs cells slots Q (F0 m (pc + 3) ls (v :: rest))) : W p l e R s m args below meth c H locs cells slots Q (F0 m pc ls (.ref a :: rest)) :=
  va_get hexec hb hts hin hown hK (hH.one he) 0 rfl hc k hk hlink hsame hv hdg kk
theorem hm_getN (hexec : p.tables.exec = Jvm.exec) (hb : c.code = cc) {own ref C host : String} {T : u_T} {N ci index : Nat} {Ts : List Cond} (hts : ∀ w ∈ Ts, w.before args s = true) (hin : ∀ w ∈ u_ws C T N, w ∈ Ts) (hown : s.vm.findClass own = some m.cls) (hK : va_K D cl tys s) (hH : hm D cl G h H) {fs : List Value} (he : h a = some (.inr (ci, fs))) (hc : cl[ci]? = some (C, T, N)) (k : Nat) (hk : k < N) (hlink : (Cond.fieldLinkNest own index ref (T k).2.1 (T k).2.2.1 host).before args s = true) (hsame : ∀ x, s.fieldFound? (T k).1 (T k).2.1 (T k).2.2.1 = some x → s.fieldFound? ref (T k).2.1 (T k).2.2.1 = some x) {v : Value} (hv : fs[k]? = some v) (hdg : decode cc pc = .ok (.getfield index, 3))
    (kk : W p l e R s m args below meth c H locs cells slots Q (F0 m (pc + 3) ls (v :: rest))) : W p l e R s m args below meth c H locs cells slots Q (F0 m pc ls (.ref a :: rest)) :=
  va_getN hexec hb hts hin hown hK (hH.one he) 0 rfl hc k hk hlink hsame hv hdg kk
theorem hm_put (hexec : p.tables.exec = Jvm.exec) (hb : c.code = cc) {own ref C : String} {T : u_T} {N ci index : Nat} {Ts : List Cond} (hts : ∀ w ∈ Ts, w.before args s = true) (hin : ∀ w ∈ u_ws C T N, w ∈ Ts) (ty0 : Nat → FieldType) (hty : ∀ k, k < N → parseFieldDescriptor (T k).2.2.1 = some (ty0 k)) (hnm : ∀ a, a < N → ∀ b, b < N → a ≠ b → (T a).2.1 ≠ (T b).2.1) (hown : s.vm.findClass own = some m.cls) (hK : va_K D cl tys s) (hH : hm D cl G h H) (hLo : hLc G.P locs) {fs : List Value} (he : h a = some (.inr (ci, fs))) (hc : cl[ci]? = some (C, T, N)) (k : Nat) (hk : k < N) (hlink : (Cond.fieldLink own index ref (T k).2.1 (T k).2.2.1).before args s = true) (hsame : ∀ x, s.fieldFound? (T k).1 (T k).2.1 (T k).2.2.1 = some x → s.fieldFound? ref (T k).2.1 (T k).2.2.1 = some x) (hfin : (T k).2.2.2 = false) {ty : FieldType} {v : Value} (hd : parseFieldDescriptor (T k).2.2.1 = some ty) (hn : narrow ty v = v) (hfit : fits ty v = true) (hl : k < fs.length)
    (hdg : decode cc pc = .ok (.putfield index, 3)) (kk : ∀ (H1 : Heap) (locs1 : List Loc), hm D cl G (hu h a (.inr (ci, fs.set k v))) H1 → H1.size = H.size → hLc G.P locs1 → W p l e R s m args below meth c H1 locs1 cells slots Q (F0 m (pc + 3) ls rest)) : W p l e R s m args below meth c H locs cells slots Q (F0 m pc ls (v :: .ref a :: rest)) := by
  have hap := va_apart (own := own) hts hin ty0 hty hnm hK hc
  obtain ⟨r, h1, cell, q1, q2, q3, q4⟩ := hH.at he
  have hr : r = (C, T, N) := Option.some.inj (h1.symm.trans hc)
  subst hr
  obtain ⟨hS, hfc, kC, hkC, hkind⟩ := hK.1 ci _ hc
  obtain ⟨cf, kf, fi, f, hi, hsl⟩ := hS k hk
  have hlay := hts _ (hin _ (u_in_lay hk))
  unfold u_lay at hlay
  rw [if_neg (by rw [hfin]; decide)] at hlay
  have hst := (u_facts hfc hkC (u_lays hts hin hk) hi).1
  have h6 := u_store hfc hkC hkind hlay hi hd hn hfit
  refine W.putK hexec hb (f := f) ⟨hown, hlink, ⟨_, _, _, hsame _ hi⟩, hst⟩ (by rw [q2]; exact h6) q1 q3 (by rw [hsl]; exact k2_hasslot (q4 k hk)) rfl rfl hdg fun H' e1 e2 e3 => ?_
  rw [hsl] at e1 ⊢
  exact kk H' _ (hH.set (hH.ge he) ⟨_, hc, t_OB.to (V := updV (vp_V fs) k v) ⟨_, e1, q2, q3, t_set q4 hap hk v⟩ (fun j _ => vp_updV_set hl v j)⟩ e2 e3) e2 (hLc_put hLo (hH.ge he))
theorem hm_putN (hexec : p.tables.exec = Jvm.exec) (hb : c.code = cc) {own ref C host : String} {T : u_T} {N ci index : Nat} {Ts : List Cond} (hts : ∀ w ∈ Ts, w.before args s = true) (hin : ∀ w ∈ u_ws C T N, w ∈ Ts) (ty0 : Nat → FieldType) (hty : ∀ k, k < N → parseFieldDescriptor (T k).2.2.1 = some (ty0 k)) (hnm : ∀ a, a < N → ∀ b, b < N → a ≠ b → (T a).2.1 ≠ (T b).2.1) (hown : s.vm.findClass own = some m.cls) (hK : va_K D cl tys s) (hH : hm D cl G h H) (hLo : hLc G.P locs) {fs : List Value} (he : h a = some (.inr (ci, fs))) (hc : cl[ci]? = some (C, T, N)) (k : Nat) (hk : k < N) (hlink : (Cond.fieldLinkNest own index ref (T k).2.1 (T k).2.2.1 host).before args s = true) (hsame : ∀ x, s.fieldFound? (T k).1 (T k).2.1 (T k).2.2.1 = some x → s.fieldFound? ref (T k).2.1 (T k).2.2.1 = some x) (hfin : (T k).2.2.2 = false) {ty : FieldType} {v : Value} (hd : parseFieldDescriptor (T k).2.2.1 = some ty) (hn : narrow ty v = v) (hfit : fits ty v = true) (hl : k < fs.length)
    (hdg : decode cc pc = .ok (.putfield index, 3)) (kk : ∀ (H1 : Heap) (locs1 : List Loc), hm D cl G (hu h a (.inr (ci, fs.set k v))) H1 → H1.size = H.size → hLc G.P locs1 → W p l e R s m args below meth c H1 locs1 cells slots Q (F0 m (pc + 3) ls rest)) : W p l e R s m args below meth c H locs cells slots Q (F0 m pc ls (v :: .ref a :: rest)) := by
  have hap := va_apart (own := own) hts hin ty0 hty hnm hK hc
  obtain ⟨r, h1, cell, q1, q2, q3, q4⟩ := hH.at he
  have hr : r = (C, T, N) := Option.some.inj (h1.symm.trans hc)
  subst hr
  obtain ⟨hS, hfc, kC, hkC, hkind⟩ := hK.1 ci _ hc
  obtain ⟨cf, kf, fi, f, hi, hsl⟩ := hS k hk
  have hlay := hts _ (hin _ (u_in_lay hk))
  unfold u_lay at hlay
  rw [if_neg (by rw [hfin]; decide)] at hlay
  have hst := (u_facts hfc hkC (u_lays hts hin hk) hi).1
  have h6 := u_store hfc hkC hkind hlay hi hd hn hfit
  refine va_WputK hexec hb (f := f) hown hlink (hsame _ hi) hst (by rw [q2]; exact h6) q1 q3 (by rw [hsl]; exact k2_hasslot (q4 k hk)) rfl rfl hdg fun H' e1 e2 e3 => ?_
  rw [hsl] at e1 ⊢
  exact kk H' _ (hH.set (hH.ge he) ⟨_, hc, t_OB.to (V := updV (vp_V fs) k v) ⟨_, e1, q2, q3, t_set q4 hap hk v⟩ (fun j _ => vp_updV_set hl v j)⟩ e2 e3) e2 (hLc_put hLo (hH.ge he))
theorem hm_putF (hexec : p.tables.exec = Jvm.exec) (hb : c.code = cc) {own ref C : String} {T : u_T} {N ci index : Nat} {Ts : List Cond} (hts : ∀ w ∈ Ts, w.before args s = true) (hin : ∀ w ∈ u_ws C T N, w ∈ Ts) (ty0 : Nat → FieldType) (hty : ∀ k, k < N → parseFieldDescriptor (T k).2.2.1 = some (ty0 k)) (hnm : ∀ a, a < N → ∀ b, b < N → a ≠ b → (T a).2.1 ≠ (T b).2.1) (hown : s.vm.findClass own = some m.cls) (hK : va_K D cl tys s) (hH : hm D cl G h H) (hLo : hLc G.P locs) {fs : List Value} (he : h a = some (.inr (ci, fs))) (hc : cl[ci]? = some (C, T, N)) (k : Nat) (hk : k < N) (hlink : (Cond.fieldLink own index ref (T k).2.1 (T k).2.2.1).before args s = true) (hsame : ∀ x, s.fieldFound? (T k).1 (T k).2.1 (T k).2.2.1 = some x → s.fieldFound? ref (T k).2.1 (T k).2.2.1 = some x) (hfin : (T k).2.2.2 = true) (hin2 : meth.name = "<init>") (hdecl : (T k).1 = own) {ty : FieldType} {v : Value} (hd : parseFieldDescriptor (T k).2.2.1 = some ty) (hn : narrow ty v = v) (hfit : fits ty v = true) (hl : k < fs.length)
    (hdg : decode cc pc = .ok (.putfield index, 3)) (kk : ∀ (H1 : Heap) (locs1 : List Loc), hm D cl G (hu h a (.inr (ci, fs.set k v))) H1 → H1.size = H.size → hLc G.P locs1 → W p l e R s m args below meth c H1 locs1 cells slots Q (F0 m (pc + 3) ls rest)) : W p l e R s m args below meth c H locs cells slots Q (F0 m pc ls (v :: .ref a :: rest)) := by
  have hap := va_apart (own := own) hts hin ty0 hty hnm hK hc
  obtain ⟨r, h1, cell, q1, q2, q3, q4⟩ := hH.at he
  have hr : r = (C, T, N) := Option.some.inj (h1.symm.trans hc)
  subst hr
  obtain ⟨hS, hfc, kC, hkC, hkind⟩ := hK.1 ci _ hc
  obtain ⟨cf, kf, fi, f, hi, hsl⟩ := hS k hk
  have hlay := hts _ (hin _ (u_in_lay hk))
  unfold u_lay at hlay
  rw [if_pos hfin] at hlay
  have hst := (u_facts hfc hkC (u_lays hts hin hk) hi).1
  have hcf : m.cls = cf := by
    obtain ⟨_, _, c', _, _, _, -, -, hf', -, -, -, hown2, -⟩ := Cond.laysFinal_spec hlay
    have e1 : c' = cf := by have := hi.symm.trans hf'; simp at this; exact this.1.symm
    rw [hdecl] at hown2
    rw [← e1]; exact Option.some.inj (hown.symm.trans hown2)
  have h6 := u_fits hfc hkC hkind (Or.inr hlay) hi hd hn hfit
  refine W.putFinK hexec hb hown hlink (hsame _ hi) hst hcf hin2 (by rw [q2]; exact h6) q1 q3 (by rw [hsl]; exact k2_hasslot (q4 k hk)) rfl rfl hdg fun H' e1 e2 e3 => ?_
  rw [hsl] at e1 ⊢
  exact kk H' _ (hH.set (hH.ge he) ⟨_, hc, t_OB.to (V := updV (vp_V fs) k v) ⟨_, e1, q2, q3, t_set q4 hap hk v⟩ (fun j _ => vp_updV_set hl v j)⟩ e2 e3) e2 (hLc_put hLo (hH.ge he))
/-! arrays -/
theorem hm_bald (hexec : p.tables.exec = Jvm.exec) (hb : c.code = cc) (hK : va_K D cl tys s) (hH : hm D cl G h H) (t0 : Nat) {cA : ClassId} {n : Nat} {f : Nat → Int32} (ha : h a = some (.inl (cA, n, .inl f))) (ht : tys[t0]? = some (cA, .byte)) {i : Int32} (hin : vp_in i n) (hdg : decode cc pc = .ok (.baload, 1))
    (kk : W p l e R s m args below meth c H locs cells slots Q (F0 m (pc + 1) ls (.int (f i.toNatClampNeg) :: rest))) : W p l e R s m args below meth c H locs cells slots Q (F0 m pc ls (.int i :: .ref a :: rest)) := va_bald hexec hb hK (hH.one ha) 0 t0 rfl ht hin hdg kk
theorem hm_zald (hexec : p.tables.exec = Jvm.exec) (hb : c.code = cc) (hK : va_K D cl tys s) (hH : hm D cl G h H) (t0 : Nat) {cA : ClassId} {n : Nat} {f : Nat → Int32} (ha : h a = some (.inl (cA, n, .inl f))) (ht : tys[t0]? = some (cA, .boolean)) {i : Int32} (hin : vp_in i n) (hdg : decode cc pc = .ok (.baload, 1))
    (kk : W p l e R s m args below meth c H locs cells slots Q (F0 m (pc + 1) ls (.int (f i.toNatClampNeg) :: rest))) : W p l e R s m args below meth c H locs cells slots Q (F0 m pc ls (.int i :: .ref a :: rest)) := va_zald hexec hb hK (hH.one ha) 0 t0 rfl ht hin hdg kk
theorem hm_iald (hexec : p.tables.exec = Jvm.exec) (hb : c.code = cc) (hK : va_K D cl tys s) (hH : hm D cl G h H) (t0 : Nat) {cA : ClassId} {n : Nat} {f : Nat → Int32} (ha : h a = some (.inl (cA, n, .inl f))) (ht : tys[t0]? = some (cA, .int)) {i : Int32} (hin : vp_in i n) (hdg : decode cc pc = .ok (.iaload, 1))
    (kk : W p l e R s m args below meth c H locs cells slots Q (F0 m (pc + 1) ls (.int (f i.toNatClampNeg) :: rest))) : W p l e R s m args below meth c H locs cells slots Q (F0 m pc ls (.int i :: .ref a :: rest)) := va_iald hexec hb hK (hH.one ha) 0 t0 rfl ht hin hdg kk
theorem hm_lald (hexec : p.tables.exec = Jvm.exec) (hb : c.code = cc) (hK : va_K D cl tys s) (hH : hm D cl G h H) (t0 : Nat) {cA : ClassId} {n : Nat} {f : Nat → Int64} (ha : h a = some (.inl (cA, n, .inr (.inl f)))) (ht : tys[t0]? = some (cA, .long)) {i : Int32} (hin : vp_in i n) (hdg : decode cc pc = .ok (.laload, 1))
    (kk : W p l e R s m args below meth c H locs cells slots Q (F0 m (pc + 1) ls (.long (f i.toNatClampNeg) :: rest))) : W p l e R s m args below meth c H locs cells slots Q (F0 m pc ls (.int i :: .ref a :: rest)) := va_lald hexec hb hK (hH.one ha) 0 t0 rfl ht hin hdg kk
theorem hm_aald (hexec : p.tables.exec = Jvm.exec) (hb : c.code = cc) (hK : va_K D cl tys s) (hH : hm D cl G h H) (t0 : Nat) {cA : ClassId} {C : String} {n : Nat} {f : Nat → Option Nat} (ha : h a = some (.inl (cA, n, .inr (.inr (.inr (.inr f)))))) (ht : tys[t0]? = some (cA, .object C)) {i : Int32} (hin : vp_in i n) {v : Value} (hv : va_rf (f i.toNatClampNeg) = v) (hdg : decode cc pc = .ok (.aaload, 1))
    (kk : W p l e R s m args below meth c H locs cells slots Q (F0 m (pc + 1) ls (v :: rest))) : W p l e R s m args below meth c H locs cells slots Q (F0 m pc ls (.int i :: .ref a :: rest)) := by
  subst hv
  exact va_aldq hexec hb hK (hH.one ha) 0 t0 rfl ht hin hdg kk
theorem hm_alen (hexec : p.tables.exec = Jvm.exec) (hb : c.code = cc) (hK : va_K D cl tys s) (hH : hm D cl G h H) (t0 : Nat) {cA : ClassId} {x : vp_A} (ha : h a = some (.inl (cA, x))) {ty : FieldType} (ht : tys[t0]? = some (cA, ty)) {v : Int32} (hv : Int32.ofNat x.1 = v) (hdg : decode cc pc = .ok (.arraylength, 1))
    (kk : W p l e R s m args below meth c H locs cells slots Q (F0 m (pc + 1) ls (.int v :: rest))) : W p l e R s m args below meth c H locs cells slots Q (F0 m pc ls (.ref a :: rest)) := va_alen hexec hb hK (hH.one ha) 0 t0 rfl ht hv hdg kk
theorem hm_bast (hexec : p.tables.exec = Jvm.exec) (hb : c.code = cc) (hK : va_K D cl tys s) (hH : hm D cl G h H) (hLo : hLc G.P locs) (t0 : Nat) {cA : ClassId} {n : Nat} {f : Nat → Int32} (ha : h a = some (.inl (cA, n, .inl f))) (ht : tys[t0]? = some (cA, .byte)) {i x : Int32} (hin : vp_in i n) (hdg : decode cc pc = .ok (.bastore, 1))
    (kk : ∀ (H1 : Heap) (locs1 : List Loc), hm D cl G (hu h a (.inl (cA, n, .inl (upd f i.toNatClampNeg (vp_nar .byte x))))) H1 → H1.size = H.size → hLc G.P locs1 → W p l e R s m args below meth c H1 locs1 cells slots Q (F0 m (pc + 1) ls rest)) : W p l e R s m args below meth c H locs cells slots Q (F0 m pc ls (.int x :: .int i :: .ref a :: rest)) := by
  refine W.bast hexec hb (hH.at ha) ((hK.2 t0 _ ht).1 n (fun j => .int (f j))) (fun q => by cases q) (by show ¬ (i < 0 ∨ (arrV _ _ _).slots.size ≤ _); rw [arrV_size]; exact hin) rfl rfl hdg fun H1 e z oq => ?_
  refine kk H1 _ (hH.set (hH.ge ha) ?_ z oq) z (hLc_put hLo (hH.ge ha))
  show H1[a]? = some (vp_cell _ _)
  rw [e, vp_cell_i, vp_cell_i, arrV_store]
  congr 2
  funext q
  by_cases hq : q = i.toNatClampNeg
  · subst hq
    simp [updV, upd, vp_nar]
    try rfl
  · simp [updV, upd, hq]
theorem hm_zast (hexec : p.tables.exec = Jvm.exec) (hb : c.code = cc) (hK : va_K D cl tys s) (hH : hm D cl G h H) (hLo : hLc G.P locs) (t0 : Nat) {cA : ClassId} {n : Nat} {f : Nat → Int32} (ha : h a = some (.inl (cA, n, .inl f))) (ht : tys[t0]? = some (cA, .boolean)) {i x : Int32} (hin : vp_in i n) (hdg : decode cc pc = .ok (.bastore, 1))
    (kk : ∀ (H1 : Heap) (locs1 : List Loc), hm D cl G (hu h a (.inl (cA, n, .inl (upd f i.toNatClampNeg (vp_nar .boolean x))))) H1 → H1.size = H.size → hLc G.P locs1 → W p l e R s m args below meth c H1 locs1 cells slots Q (F0 m (pc + 1) ls rest)) : W p l e R s m args below meth c H locs cells slots Q (F0 m pc ls (.int x :: .int i :: .ref a :: rest)) := by
  refine W.zast hexec hb (hH.at ha) ((hK.2 t0 _ ht).1 n (fun j => .int (f j))) (fun q => by cases q) (by show ¬ (i < 0 ∨ (arrV _ _ _).slots.size ≤ _); rw [arrV_size]; exact hin) rfl rfl hdg fun H1 e z oq => ?_
  refine kk H1 _ (hH.set (hH.ge ha) ?_ z oq) z (hLc_put hLo (hH.ge ha))
  show H1[a]? = some (vp_cell _ _)
  rw [e, vp_cell_i, vp_cell_i, arrV_store]
  congr 2
  funext q
  by_cases hq : q = i.toNatClampNeg
  · subst hq
    simp [updV, upd, vp_nar]
    try rfl
  · simp [updV, upd, hq]
theorem hm_iast (hexec : p.tables.exec = Jvm.exec) (hb : c.code = cc) (hK : va_K D cl tys s) (hH : hm D cl G h H) (hLo : hLc G.P locs) (t0 : Nat) {cA : ClassId} {n : Nat} {f : Nat → Int32} (ha : h a = some (.inl (cA, n, .inl f))) (ht : tys[t0]? = some (cA, .int)) {i x : Int32} (hin : vp_in i n) (hdg : decode cc pc = .ok (.iastore, 1))
    (kk : ∀ (H1 : Heap) (locs1 : List Loc), hm D cl G (hu h a (.inl (cA, n, .inl (upd f i.toNatClampNeg x)))) H1 → H1.size = H.size → hLc G.P locs1 → W p l e R s m args below meth c H1 locs1 cells slots Q (F0 m (pc + 1) ls rest)) : W p l e R s m args below meth c H locs cells slots Q (F0 m pc ls (.int x :: .int i :: .ref a :: rest)) := by
  refine W.iast hexec hb (hH.at ha) ((hK.2 t0 _ ht).1 n (fun j => .int (f j))) (fun q => by cases q) (by show ¬ (i < 0 ∨ (arrV _ _ _).slots.size ≤ _); rw [arrV_size]; exact hin) rfl rfl hdg fun H1 e z oq => ?_
  refine kk H1 _ (hH.set (hH.ge ha) ?_ z oq) z (hLc_put hLo (hH.ge ha))
  show H1[a]? = some (vp_cell _ _)
  rw [e, vp_cell_i, vp_cell_i, arrV_store]
  congr 2
  funext q
  by_cases hq : q = i.toNatClampNeg
  · subst hq
    simp [updV, upd]
  · simp [updV, upd, hq]
theorem hm_last (hexec : p.tables.exec = Jvm.exec) (hb : c.code = cc) (hK : va_K D cl tys s) (hH : hm D cl G h H) (hLo : hLc G.P locs) (t0 : Nat) {cA : ClassId} {n : Nat} {f : Nat → Int64} (ha : h a = some (.inl (cA, n, .inr (.inl f)))) (ht : tys[t0]? = some (cA, .long)) {i : Int32} {x : Int64} (hin : vp_in i n) (hdg : decode cc pc = .ok (.lastore, 1))
    (kk : ∀ (H1 : Heap) (locs1 : List Loc), hm D cl G (hu h a (.inl (cA, n, .inr (.inl (vp_updL f i.toNatClampNeg x))))) H1 → H1.size = H.size → hLc G.P locs1 → W p l e R s m args below meth c H1 locs1 cells slots Q (F0 m (pc + 1) ls rest)) : W p l e R s m args below meth c H locs cells slots Q (F0 m pc ls (.long x :: .int i :: .ref a :: rest)) := by
  refine W.last hexec hb (hH.at ha) ((hK.2 t0 _ ht).1 n (fun j => .long (f j))) (fun q => by cases q) (by show ¬ (i < 0 ∨ (arrV _ _ _).slots.size ≤ _); rw [arrV_size]; exact hin) rfl rfl hdg fun H1 e z oq => ?_
  refine kk H1 _ (hH.set (hH.ge ha) ?_ z oq) z (hLc_put hLo (hH.ge ha))
  show H1[a]? = some (vp_cell _ _)
  rw [e, vp_cell_l, vp_cell_l, arrV_store]
  congr 2
  funext q
  by_cases hq : q = i.toNatClampNeg
  · subst hq
    simp [updV, vp_updL]
  · simp [updV, vp_updL, hq]
theorem hm_aast (hexec : p.tables.exec = Jvm.exec) (hb : c.code = cc) (hK : va_K D cl tys s) (hH : hm D cl G h H) (hLo : hLc G.P locs) (t0 ci : Nat) {cA : ClassId} {r : vw_C} {n v : Nat} {vs : List Value} {f : Nat → Option Nat} (ha : h a = some (.inl (cA, n, .inr (.inr (.inr (.inr f)))))) (ht : tys[t0]? = some (cA, .object r.1)) (hv : h v = some (.inr (ci, vs))) (hc : cl[ci]? = some r) {i : Int32} (hin : vp_in i n) (hdg : decode cc pc = .ok (.aastore, 1))
    (kk : ∀ (H1 : Heap) (locs1 : List Loc), hm D cl G (hu h a (.inl (cA, n, .inr (.inr (.inr (.inr (va_up f i.toNatClampNeg (some v)))))))) H1 → H1.size = H.size → hLc G.P locs1 → W p l e R s m args below meth c H1 locs1 cells slots Q (F0 m (pc + 1) ls rest)) : W p l e R s m args below meth c H locs cells slots Q (F0 m pc ls (.ref v :: .int i :: .ref a :: rest)) := by
  have hlt : i.toNatClampNeg < n := Nat.not_le.mp fun q => hin (Or.inr q)
  have h0 : ¬ i < 0 := fun q => hin (Or.inl q)
  obtain ⟨r', hr', cellV, g1, g2, g3, -⟩ := hH.at hv
  have hcls := (hK.1 ci r hc).2
  obtain ⟨kA, comp, k1, k2, k3, -⟩ := (hK.2 t0 _ ht).2
  have hcomp : comp = D.1 ci := Option.some.inj (k3.symm.trans hcls.1)
  subst hcomp
  obtain ⟨kC, hkC, -⟩ := hcls.2
  refine W.aast hexec hb (hH.at ha) (fun q h => by cases h) (fun h => by cases h) k1 k2 rfl hkC ⟨h0, by show _ < (arrV _ _ _).slots.size; rw [arrV_size]; exact hlt⟩ g1 (fun q h => by rw [g3] at h; cases h) (by rw [g2]; exact hkC) (by rw [g2]; exact va_assign hcls) rfl rfl hdg fun H1 e z oq => ?_
  refine kk H1 _ (hH.set (hH.ge ha) ?_ z oq) z (hLc_put hLo (hH.ge ha))
  show H1[a]? = some (vp_cell _ _)
  rw [e, vp_cell_q, vp_cell_q, arrV_store]
  congr 2
  funext q
  by_cases hq : q = i.toNatClampNeg
  · subst hq
    simp [updV, va_up, va_rf]
  · simp [updV, va_up, hq]
/-! making -/
theorem hm_new (hexec : p.tables.exec = Jvm.exec) (hb : c.code = cc) {own C : String} {T : u_T} {N ci index : Nat} {Ts : List Cond} (hts : ∀ w ∈ Ts, w.before args s = true) (hin : ∀ w ∈ u_ws C T N, w ∈ Ts) (ty : Nat → FieldType) (hty : ∀ k, k < N → parseFieldDescriptor (T k).2.2.1 = some (ty k)) (hown : s.vm.findClass own = some m.cls) (hcl : (Cond.classLink own index C).before args s = true) (hinst : (Cond.instantiable C N).before args s = true) (hini : (Cond.initialized C).before args s = true)
    (hK : va_K D cl tys s) (hH : hm D cl G h H) (hc : cl[ci]? = some (C, T, N)) {fs : List Value} (hfs : ∀ j, j < N → defaultValue (ty j) = vp_V fs j) (hcells : cells + 1 ≤ R.cells) (hslots : slots + N ≤ R.slots) (hdg : decode cc pc = .ok (.new index, 3))
    (kk : ∀ (q : Nat) (H1 : Heap), q = H.size → h q = none → hm D cl G (hu h q (.inr (ci, fs))) H1 → H1.size = H.size + 1 →
      W p l e R s m args below meth c H1 locs (cells + 1) (slots + N) Q (F0 m (pc + 3) ls (.ref q :: rest))) : W p l e R s m args below meth c H locs cells slots Q (F0 m pc ls rest) := by
  have hKn := hK.1 ci _ hc
  refine W.newcK hexec hb hown hcl hinst hini rfl hdg hcells hslots hKn.2.1 rfl fun H1 kC hkC e1 z1 o1 => ?_
  refine kk H.size H1 rfl ?_ (hH.push ⟨_, hc, (u_born ty hts hin hKn hkC e1 hty).to hfs⟩ z1 o1) z1
  cases hq : h H.size with
  | none => rfl
  | some e9 => exact absurd rfl (hH.fresh hq)
theorem hm_newa (hexec : p.tables.exec = Jvm.exec) (hb : c.code = cc) {atype : ArrayType} (harr : (Cond.arrayClass (newarray.typeOf atype)).before args s = true) {ty : FieldType} (hty : newarray.typeOf atype = ty) (hK : va_K D cl tys s) (hH : hm D cl G h H) (t0 : Nat) {cA : ClassId} (ht : tys[t0]? = some (cA, ty)) (hRA : s.vm.findClass ("[" ++ ty.toString) = some cA)
    {n : Int32} {N' : Nat} {a0 : vp_A} (ha : ∀ cA : ClassId, vp_cell cA a0 = arrV cA N' (fun _ => defaultValue ty)) (hn : ¬ n < 0) (hN : n.toNatClampNeg = N') (hbytes : N' * componentBytes ty ≤ 536870912) (hcells : cells + 1 ≤ R.cells) (hslots : slots + N' ≤ R.slots) (hdg : decode cc pc = .ok (.newarray atype, 2))
    (kk : ∀ (q : Nat) (H1 : Heap), q = H.size → h q = none → hm D cl G (hu h q (.inl (cA, a0))) H1 → H1.size = H.size + 1 →
      W p l e R s m args below meth c H1 locs (cells + 1) (slots + N') Q (F0 m (pc + 2) ls (.ref q :: rest))) : W p l e R s m args below meth c H locs cells slots Q (F0 m pc ls (.int n :: rest)) := by
  subst hty
  refine va_newaK hexec hb harr rfl hdg rfl hn hN hbytes hcells hslots rfl fun H1 cA' e1 z1 o1 hAr hNm => ?_
  have hcc : cA' = cA := Option.some.inj (hNm.symm.trans hRA)
  subst hcc
  refine kk H.size H1 rfl ?_ (hH.push ?_ z1 o1) z1
  · cases hq : h H.size with
    | none => rfl
    | some e9 => exact absurd rfl (hH.fresh hq)
  · show H1[H.size]? = some (vp_cell _ _)
    rw [ha]
    exact e1
theorem hm_newq (hexec : p.tables.exec = Jvm.exec) (hb : c.code = cc) {own C : String} {index : Nat} (hown : s.vm.findClass own = some m.cls) (hclink : (Cond.classLink own index C).before args s = true) (hover : va_AO C s) (hK : va_K D cl tys s) (hH : hm D cl G h H) (t0 : Nat) {cA : ClassId} (ht : tys[t0]? = some (cA, .object C))
    {n : Int32} {N' : Nat} (hn : ¬ n < 0) (hN : n.toNatClampNeg = N') (hbytes : N' * 4 ≤ 536870912) (hcells : cells + 1 ≤ R.cells) (hslots : slots + N' ≤ R.slots) (hdg : decode cc pc = .ok (.anewarray index, 3))
    (kk : ∀ (q : Nat) (H1 : Heap), q = H.size → h q = none → hm D cl G (hu h q (.inl (cA, N', .inr (.inr (.inr (.inr (fun _ => none))))))) H1 → H1.size = H.size + 1 →
      W p l e R s m args below meth c H1 locs (cells + 1) (slots + N') Q (F0 m (pc + 3) ls (.ref q :: rest))) : W p l e R s m args below meth c H locs cells slots Q (F0 m pc ls (.int n :: rest)) := by
  subst hN
  refine W.anew hexec hb hown hclink (va_AO.use hover) rfl hdg rfl hn hbytes hcells hslots fun cA' kA comp f1 f2 f3 f4 => ?_
  have hcc : cA' = cA := by
    obtain ⟨kA2, comp2, g1, g2, g3, g4⟩ := (hK.2 t0 _ ht).2
    exact Option.some.inj (f1.symm.trans g4)
  subst hcc
  generalize hH1 : H.push ({ cls := cA', slots := Array.replicate n.toNatClampNeg .null, vm := .none } : Cell) = H1
  have z1 : H1.size = H.size + 1 := by rw [← hH1, Array.size_push]
  have e1 : H1[H.size]? = some (arrV cA' n.toNatClampNeg (fun _ => .null)) := by rw [← hH1, Array.getElem?_push_size, ← arrV_new]
  have o1 : ∀ q : Nat, q < H.size → H1[q]? = H[q]? := fun q hq => by rw [← hH1, Array.getElem?_push, if_neg (Nat.ne_of_lt hq)]
  refine kk H.size H1 rfl ?_ (hH.push ?_ z1 o1) z1
  · cases hq : h H.size with
    | none => rfl
    | some e9 => exact absurd rfl (hH.fresh hq)
  · show H1[H.size]? = some (vp_cell _ _)
    rw [vp_cell_q]
    exact e1
end HMW
/-! what stays: at each address outside M the cell that was there -/
def kp (M : List Nat) (h h' : hM) : Prop := ∀ (b : Nat) (e : va_E), h b = some e → b ∉ M → h' b = some e
theorem kp_rf {M : List Nat} {h : hM} : kp M h h := fun _ _ hb _ => hb
theorem kp_put {M : List Nat} {h h1 : hM} {a : Nat} {e : va_E} (k : kp M h h1) (ha : a ∈ M) : kp M h (hu h1 a e) := fun b f hb hn => by
  rw [hu_n (fun q => hn (by rw [q]; exact ha))]
  exact k b f hb hn
theorem kp_new {M : List Nat} {h h1 : hM} {a : Nat} {e : va_E} (k : kp M h h1) (ha : h1 a = none) : kp M h (hu h1 a e) := fun b f hb hn => by
  have h2 := k b f hb hn
  rw [hu_n (fun q => by rw [q, ha] at h2; cases h2)]
  exact h2
theorem kp_tr {M M' : List Nat} {h h1 h2 : hM} (k : kp M h h1) (k2 : kp M' h1 h2) (hs : ∀ a ∈ M', a ∈ M) : kp M h h2 := fun b f hb hn => k2 b f (k b f hb hn) (fun q => hn (hs b q))
theorem kp_mono {M M' : List Nat} {h h1 : hM} (k : kp M h h1) (hs : ∀ a ∈ M, a ∈ M') : kp M' h h1 := fun b f hb hn => k b f hb (fun q => hn (hs b q))
/-- what was made since is no longer watched: cells of M that h did not have -/
theorem kp_drop {M M' : List Nat} {h h1 : hM} (k : kp M h h1) (hs : ∀ a ∈ M, a ∈ M' ∨ h a = none) : kp M' h h1 := fun b f hb hn => k b f hb (fun q => by
  rcases hs b q with h2 | h2
  · exact hn h2
  · rw [h2] at hb
    cases hb)
theorem kp_at {M : List Nat} {h h1 : hM} {b : Nat} {e : va_E} (k : kp M h h1) (hb : h b = some e) (hn : b ∉ M) : h1 b = some e := k b e hb hn
theorem nm0 {b : Nat} : b ∉ ([] : List Nat) := fun h => by cases h
theorem nmc {b a : Nat} {M : List Nat} (n : b ≠ a) (h : b ∉ M) : b ∉ a :: M := fun q => by
  rcases List.mem_cons.mp q with h1 | h1
  · exact n h1
  · exact h h1
/-! a contract's start and end -/
def hP (K : State → Prop) (D : va_G) (cl : List vw_C) (G : hG) (h : hM) (av : List Value) : Array Value → State → Prop := fun v U => v = av.toArray ∧ K U ∧ hm D cl G h U.heap
def hQi (D : va_G) (cl : List vw_C) (G : hG) (post : Int32 → hM → Prop) : Array Value → State → Outcome → State → Prop := fun _ st o t => ∃ (r : Int32) (h' : hM), o = .returned (some (.int r)) ∧ post r h' ∧ hm D cl G h' t.heap ∧ st.heap.size ≤ t.heap.size
def hQl (D : va_G) (cl : List vw_C) (G : hG) (post : Int64 → hM → Prop) : Array Value → State → Outcome → State → Prop := fun _ st o t => ∃ (r : Int64) (h' : hM), o = .returned (some (.long r)) ∧ post r h' ∧ hm D cl G h' t.heap ∧ st.heap.size ≤ t.heap.size
def hQr (D : va_G) (cl : List vw_C) (G : hG) (post : Option Nat → hM → Prop) : Array Value → State → Outcome → State → Prop := fun _ st o t => ∃ (r : Option Nat) (h' : hM), o = .returned (some (va_rf r)) ∧ post r h' ∧ hm D cl G h' t.heap ∧ st.heap.size ≤ t.heap.size
def hQv (D : va_G) (cl : List vw_C) (G : hG) (post : hM → Prop) : Array Value → State → Outcome → State → Prop := fun _ st o t => ∃ (h' : hM), o = .returned none ∧ post h' ∧ hm D cl G h' t.heap ∧ st.heap.size ≤ t.heap.size
/-- the tables' part of a start: it goes over into a call, and stays while the machine notes what it resolved -/
def hKok (K : State → Prop) : Prop := (∀ (U : State) (g : JFrame) (mk : MethodId) (a : Array Value), K U → K (U.calling g mk a)) ∧ ∀ (s U : State), s.WarmedH U.vm → K s → K U
theorem hP_S {K : State → Prop} {D : va_G} {cl : List vw_C} {G : hG} {h : hM} {s : State} {H : Heap} {As : List Value} (ok : hKok K) (hk : K s) (hH : hm D cl G h H) : PreS s H (hP K D cl G h As) As :=
  ⟨fun a U g mk q => ⟨q.1, ok.1 U g mk a q.2.1, q.2.2⟩, fun U hU hW => ⟨rfl, ok.2 s U hW hk, by rw [hU]; exact hH⟩⟩
theorem hP_V {K : State → Prop} {D : va_G} {cl : List vw_C} {tys : List (ClassId × FieldType)} {G : hG} {h : hM} {s : State} {H : Heap} {As : List Value} {b ci : Nat} {fs : List Value} {q : vw_C} (ok : hKok K) (hk : K s) (hK : va_K D cl tys s) (hH : hm D cl G h H) (he : h b = some (.inr (ci, fs))) (hc : cl[ci]? = some q) : PreV s H q.1 b (hP K D cl G h (.ref b :: As)) As :=
  ⟨fun a U g mk q => ⟨q.1, ok.1 U g mk a q.2.1, q.2.2⟩, va_recv (q0 := 0) hK (hH.one he) hc rfl, fun U hU hW => ⟨rfl, ok.2 s U hW hk, by rw [hU]; exact hH⟩⟩
section HMC
variable {p : Program} {l : Launch} {e : Env} {R : Room} {s : State} {m : MethodId} {args : Array Value} {below : List Frame} {meth : Method} {c : Code} {H : Heap} {locs : List Loc} {cells slots : Nat} {Q : State → Prop}
variable {pc : Nat} {ls : Array Slot} {rest st0 : List Value} {a : Array Value} {mc ms : Nat} {D : va_G} {cl : List vw_C} {G : hG}
theorem hm_calli {post : Int32 → hM → Prop} (hr : va_Run p l e R s m args below meth c H locs cells slots mc ms (F0 m pc ls st0) rest (hQi D cl G post a) G.P) (hLo : hLc G.P locs)
    (kk : ∀ (r : Int32) (h' : hM) (H1 : Heap) (locs1 : List Loc), post r h' → hm D cl G h' H1 → H.size ≤ H1.size → hLc G.P locs1 → W p l e R s m args below meth c H1 locs1 (cells + mc) (slots + ms) Q (F0 m (pc + 3) ls (.int r :: rest))) : W p l e R s m args below meth c H locs cells slots Q (F0 m pc ls st0) := by
  intro T hT X
  obtain ⟨v, st₀, t, T', L, h0, X', hL, e1, e2, ⟨r, h', hv, hp, hh, hz⟩, st⟩ := hr T hT X
  cases hv
  rw [h0] at hz
  obtain ⟨t2, a1, b1⟩ := kk r h' T'.heap (locs ++ L) hp (by rw [e1]; exact hh) (by rw [e1]; exact hz) (hLc_app hLo hL) T' rfl X'
  exact ⟨t2, st t2 a1, b1⟩
theorem hm_calll {post : Int64 → hM → Prop} (hr : va_Run p l e R s m args below meth c H locs cells slots mc ms (F0 m pc ls st0) rest (hQl D cl G post a) G.P) (hLo : hLc G.P locs)
    (kk : ∀ (r : Int64) (h' : hM) (H1 : Heap) (locs1 : List Loc), post r h' → hm D cl G h' H1 → H.size ≤ H1.size → hLc G.P locs1 → W p l e R s m args below meth c H1 locs1 (cells + mc) (slots + ms) Q (F0 m (pc + 3) ls (.long r :: rest))) : W p l e R s m args below meth c H locs cells slots Q (F0 m pc ls st0) := by
  intro T hT X
  obtain ⟨v, st₀, t, T', L, h0, X', hL, e1, e2, ⟨r, h', hv, hp, hh, hz⟩, st⟩ := hr T hT X
  cases hv
  rw [h0] at hz
  obtain ⟨t2, a1, b1⟩ := kk r h' T'.heap (locs ++ L) hp (by rw [e1]; exact hh) (by rw [e1]; exact hz) (hLc_app hLo hL) T' rfl X'
  exact ⟨t2, st t2 a1, b1⟩
theorem hm_callr {post : Option Nat → hM → Prop} (hr : va_Run p l e R s m args below meth c H locs cells slots mc ms (F0 m pc ls st0) rest (hQr D cl G post a) G.P) (hLo : hLc G.P locs)
    (kk : ∀ (r : Option Nat) (h' : hM) (H1 : Heap) (locs1 : List Loc), post r h' → hm D cl G h' H1 → H.size ≤ H1.size → hLc G.P locs1 → W p l e R s m args below meth c H1 locs1 (cells + mc) (slots + ms) Q (F0 m (pc + 3) ls (va_rf r :: rest))) : W p l e R s m args below meth c H locs cells slots Q (F0 m pc ls st0) := by
  intro T hT X
  obtain ⟨v, st₀, t, T', L, h0, X', hL, e1, e2, ⟨r, h', hv, hp, hh, hz⟩, st⟩ := hr T hT X
  cases hv
  rw [h0] at hz
  obtain ⟨t2, a1, b1⟩ := kk r h' T'.heap (locs ++ L) hp (by rw [e1]; exact hh) (by rw [e1]; exact hz) (hLc_app hLo hL) T' rfl X'
  exact ⟨t2, st t2 a1, b1⟩
theorem hm_callv {post : hM → Prop} (hr : va_Run p l e R s m args below meth c H locs cells slots mc ms (F0 m pc ls st0) rest (hQv D cl G post a) G.P) (hLo : hLc G.P locs)
    (kk : ∀ (h' : hM) (H1 : Heap) (locs1 : List Loc), post h' → hm D cl G h' H1 → H.size ≤ H1.size → hLc G.P locs1 → W p l e R s m args below meth c H1 locs1 (cells + mc) (slots + ms) Q (F0 m (pc + 3) ls rest)) : W p l e R s m args below meth c H locs cells slots Q (F0 m pc ls st0) := by
  intro T hT X
  obtain ⟨v, st₀, t, T', L, h0, X', hL, e1, e2, ⟨h', hv, hp, hh, hz⟩, st⟩ := hr T hT X
  cases hv
  rw [h0] at hz
  obtain ⟨t2, a1, b1⟩ := kk h' T'.heap (locs ++ L) hp (by rw [e1]; exact hh) (by rw [e1]; exact hz) (hLc_app hLo hL) T' rfl X'
  exact ⟨t2, st t2 a1, b1⟩
end HMC
/-! the words: all good ones of the tables go along with every method -/
def lw_g : List Cond := lw_tbl.filter goodWord
theorem gw9 {w : Cond} (h : goodWord w = true) : (w.onTables && w.keeps) = true ∨ ∃ ty, w = .arrayClass ty := by
  cases w <;> first | exact Or.inr ⟨_, rfl⟩ | exact Or.inl h
theorem lw_gin {w : Cond} (h : w ∈ lw_tbl) (hg : goodWord w = true) : w ∈ lw_g := List.mem_filter.mpr ⟨h, hg⟩
theorem lw_good {w : Cond} (h : w ∈ lw_g) : GoodIn lw_g (w :: lw_g) := by
  intro x hx
  rcases List.mem_cons.mp hx with h1 | h1
  · subst h1
    exact ⟨h, gw9 (List.mem_filter.mp h).2⟩
  · exact ⟨h1, gw9 (List.mem_filter.mp h1).2⟩
/-! the same rows, the place given as a number -/
section HMJ
variable {p : Program} {l : Launch} {e : Env} {R : Room} {s : State} {m : MethodId} {args : Array Value} {below : List Frame} {meth : Method} {c : Code} {H : Heap} {locs : List Loc} {cells slots : Nat} {Q : State → Prop}
variable {cc : ByteArray} {pc : Nat} {ls : Array Slot} {rest : List Value} {D : va_G} {cl : List vw_C} {a : Nat} {tys : List (ClassId × FieldType)} {G : hG} {h : hM}
theorem hj_bald (hexec : p.tables.exec = Jvm.exec) (hb : c.code = cc) (hK : va_K D cl tys s) (hH : hm D cl G h H) (t0 : Nat) {cA : ClassId} {n : Nat} {f : Nat → Int32} (ha : h a = some (.inl (cA, n, .inl f))) (ht : tys[t0]? = some (cA, .byte)) {i : Int32} (j : Nat) (hi : i = nI j) (hj : j < n) (hn : n < 2 ^ 31) (hdg : decode cc pc = .ok (.baload, 1))
    (kk : W p l e R s m args below meth c H locs cells slots Q (F0 m (pc + 1) ls (.int (f j) :: rest))) : W p l e R s m args below meth c H locs cells slots Q (F0 m pc ls (.int i :: .ref a :: rest)) := by
  subst hi
  refine hm_bald hexec hb hK hH t0 ha ht (vp_in_nI hj hn) hdg ?_
  rw [nI_clamp (Nat.lt_trans hj hn)]
  exact kk
theorem hj_zald (hexec : p.tables.exec = Jvm.exec) (hb : c.code = cc) (hK : va_K D cl tys s) (hH : hm D cl G h H) (t0 : Nat) {cA : ClassId} {n : Nat} {f : Nat → Int32} (ha : h a = some (.inl (cA, n, .inl f))) (ht : tys[t0]? = some (cA, .boolean)) {i : Int32} (j : Nat) (hi : i = nI j) (hj : j < n) (hn : n < 2 ^ 31) (hdg : decode cc pc = .ok (.baload, 1))
    (kk : W p l e R s m args below meth c H locs cells slots Q (F0 m (pc + 1) ls (.int (f j) :: rest))) : W p l e R s m args below meth c H locs cells slots Q (F0 m pc ls (.int i :: .ref a :: rest)) := by
  subst hi
  refine hm_zald hexec hb hK hH t0 ha ht (vp_in_nI hj hn) hdg ?_
  rw [nI_clamp (Nat.lt_trans hj hn)]
  exact kk
theorem hj_iald (hexec : p.tables.exec = Jvm.exec) (hb : c.code = cc) (hK : va_K D cl tys s) (hH : hm D cl G h H) (t0 : Nat) {cA : ClassId} {n : Nat} {f : Nat → Int32} (ha : h a = some (.inl (cA, n, .inl f))) (ht : tys[t0]? = some (cA, .int)) {i : Int32} (j : Nat) (hi : i = nI j) (hj : j < n) (hn : n < 2 ^ 31) (hdg : decode cc pc = .ok (.iaload, 1))
    (kk : W p l e R s m args below meth c H locs cells slots Q (F0 m (pc + 1) ls (.int (f j) :: rest))) : W p l e R s m args below meth c H locs cells slots Q (F0 m pc ls (.int i :: .ref a :: rest)) := by
  subst hi
  refine hm_iald hexec hb hK hH t0 ha ht (vp_in_nI hj hn) hdg ?_
  rw [nI_clamp (Nat.lt_trans hj hn)]
  exact kk
theorem hj_lald (hexec : p.tables.exec = Jvm.exec) (hb : c.code = cc) (hK : va_K D cl tys s) (hH : hm D cl G h H) (t0 : Nat) {cA : ClassId} {n : Nat} {f : Nat → Int64} (ha : h a = some (.inl (cA, n, .inr (.inl f)))) (ht : tys[t0]? = some (cA, .long)) {i : Int32} (j : Nat) (hi : i = nI j) (hj : j < n) (hn : n < 2 ^ 31) (hdg : decode cc pc = .ok (.laload, 1))
    (kk : W p l e R s m args below meth c H locs cells slots Q (F0 m (pc + 1) ls (.long (f j) :: rest))) : W p l e R s m args below meth c H locs cells slots Q (F0 m pc ls (.int i :: .ref a :: rest)) := by
  subst hi
  refine hm_lald hexec hb hK hH t0 ha ht (vp_in_nI hj hn) hdg ?_
  rw [nI_clamp (Nat.lt_trans hj hn)]
  exact kk
theorem hj_aald (hexec : p.tables.exec = Jvm.exec) (hb : c.code = cc) (hK : va_K D cl tys s) (hH : hm D cl G h H) (t0 : Nat) {cA : ClassId} {C : String} {n : Nat} {f : Nat → Option Nat} (ha : h a = some (.inl (cA, n, .inr (.inr (.inr (.inr f)))))) (ht : tys[t0]? = some (cA, .object C)) {i : Int32} (j : Nat) (hi : i = nI j) (hj : j < n) (hn : n < 2 ^ 31) {v : Value} (hv : va_rf (f j) = v) (hdg : decode cc pc = .ok (.aaload, 1))
    (kk : W p l e R s m args below meth c H locs cells slots Q (F0 m (pc + 1) ls (v :: rest))) : W p l e R s m args below meth c H locs cells slots Q (F0 m pc ls (.int i :: .ref a :: rest)) := by
  subst hi
  exact hm_aald hexec hb hK hH t0 ha ht (vp_in_nI hj hn) (by rw [nI_clamp (Nat.lt_trans hj hn)]; exact hv) hdg kk
theorem hj_bast (hexec : p.tables.exec = Jvm.exec) (hb : c.code = cc) (hK : va_K D cl tys s) (hH : hm D cl G h H) (hLo : hLc G.P locs) (t0 : Nat) {cA : ClassId} {n : Nat} {f : Nat → Int32} (ha : h a = some (.inl (cA, n, .inl f))) (ht : tys[t0]? = some (cA, .byte)) {i : Int32} {x : Int32} (j : Nat) (hi : i = nI j) (hj : j < n) (hn : n < 2 ^ 31) (hdg : decode cc pc = .ok (.bastore, 1))
    (kk : ∀ (H1 : Heap) (locs1 : List Loc), hm D cl G (hu h a (.inl (cA, n, .inl (upd f j (vp_nar .byte x))))) H1 → H1.size = H.size → hLc G.P locs1 → W p l e R s m args below meth c H1 locs1 cells slots Q (F0 m (pc + 1) ls rest)) : W p l e R s m args below meth c H locs cells slots Q (F0 m pc ls (.int x :: .int i :: .ref a :: rest)) := by
  subst hi
  refine hm_bast hexec hb hK hH hLo t0 ha ht (vp_in_nI hj hn) hdg ?_
  rw [nI_clamp (Nat.lt_trans hj hn)]
  exact kk
theorem hj_zast (hexec : p.tables.exec = Jvm.exec) (hb : c.code = cc) (hK : va_K D cl tys s) (hH : hm D cl G h H) (hLo : hLc G.P locs) (t0 : Nat) {cA : ClassId} {n : Nat} {f : Nat → Int32} (ha : h a = some (.inl (cA, n, .inl f))) (ht : tys[t0]? = some (cA, .boolean)) {i : Int32} {x : Int32} (j : Nat) (hi : i = nI j) (hj : j < n) (hn : n < 2 ^ 31) (hdg : decode cc pc = .ok (.bastore, 1))
    (kk : ∀ (H1 : Heap) (locs1 : List Loc), hm D cl G (hu h a (.inl (cA, n, .inl (upd f j (vp_nar .boolean x))))) H1 → H1.size = H.size → hLc G.P locs1 → W p l e R s m args below meth c H1 locs1 cells slots Q (F0 m (pc + 1) ls rest)) : W p l e R s m args below meth c H locs cells slots Q (F0 m pc ls (.int x :: .int i :: .ref a :: rest)) := by
  subst hi
  refine hm_zast hexec hb hK hH hLo t0 ha ht (vp_in_nI hj hn) hdg ?_
  rw [nI_clamp (Nat.lt_trans hj hn)]
  exact kk
theorem hj_iast (hexec : p.tables.exec = Jvm.exec) (hb : c.code = cc) (hK : va_K D cl tys s) (hH : hm D cl G h H) (hLo : hLc G.P locs) (t0 : Nat) {cA : ClassId} {n : Nat} {f : Nat → Int32} (ha : h a = some (.inl (cA, n, .inl f))) (ht : tys[t0]? = some (cA, .int)) {i : Int32} {x : Int32} (j : Nat) (hi : i = nI j) (hj : j < n) (hn : n < 2 ^ 31) (hdg : decode cc pc = .ok (.iastore, 1))
    (kk : ∀ (H1 : Heap) (locs1 : List Loc), hm D cl G (hu h a (.inl (cA, n, .inl (upd f j x)))) H1 → H1.size = H.size → hLc G.P locs1 → W p l e R s m args below meth c H1 locs1 cells slots Q (F0 m (pc + 1) ls rest)) : W p l e R s m args below meth c H locs cells slots Q (F0 m pc ls (.int x :: .int i :: .ref a :: rest)) := by
  subst hi
  refine hm_iast hexec hb hK hH hLo t0 ha ht (vp_in_nI hj hn) hdg ?_
  rw [nI_clamp (Nat.lt_trans hj hn)]
  exact kk
theorem hj_last (hexec : p.tables.exec = Jvm.exec) (hb : c.code = cc) (hK : va_K D cl tys s) (hH : hm D cl G h H) (hLo : hLc G.P locs) (t0 : Nat) {cA : ClassId} {n : Nat} {f : Nat → Int64} (ha : h a = some (.inl (cA, n, .inr (.inl f)))) (ht : tys[t0]? = some (cA, .long)) {i : Int32} {x : Int64} (j : Nat) (hi : i = nI j) (hj : j < n) (hn : n < 2 ^ 31) (hdg : decode cc pc = .ok (.lastore, 1))
    (kk : ∀ (H1 : Heap) (locs1 : List Loc), hm D cl G (hu h a (.inl (cA, n, .inr (.inl (vp_updL f j x))))) H1 → H1.size = H.size → hLc G.P locs1 → W p l e R s m args below meth c H1 locs1 cells slots Q (F0 m (pc + 1) ls rest)) : W p l e R s m args below meth c H locs cells slots Q (F0 m pc ls (.long x :: .int i :: .ref a :: rest)) := by
  subst hi
  refine hm_last hexec hb hK hH hLo t0 ha ht (vp_in_nI hj hn) hdg ?_
  rw [nI_clamp (Nat.lt_trans hj hn)]
  exact kk
theorem hj_aast (hexec : p.tables.exec = Jvm.exec) (hb : c.code = cc) (hK : va_K D cl tys s) (hH : hm D cl G h H) (hLo : hLc G.P locs) (t0 ci : Nat) {cA : ClassId} {r : vw_C} {n v : Nat} {vs : List Value} {f : Nat → Option Nat} (ha : h a = some (.inl (cA, n, .inr (.inr (.inr (.inr f)))))) (ht : tys[t0]? = some (cA, .object r.1)) (hv : h v = some (.inr (ci, vs))) (hc : cl[ci]? = some r) {i : Int32} (j : Nat) (hi : i = nI j) (hj : j < n) (hn : n < 2 ^ 31) (hdg : decode cc pc = .ok (.aastore, 1))
    (kk : ∀ (H1 : Heap) (locs1 : List Loc), hm D cl G (hu h a (.inl (cA, n, .inr (.inr (.inr (.inr (va_up f j (some v)))))))) H1 → H1.size = H.size → hLc G.P locs1 → W p l e R s m args below meth c H1 locs1 cells slots Q (F0 m (pc + 1) ls rest)) : W p l e R s m args below meth c H locs cells slots Q (F0 m pc ls (.ref v :: .int i :: .ref a :: rest)) := by
  subst hi
  refine hm_aast hexec hb hK hH hLo t0 ci ha ht hv hc (vp_in_nI hj hn) hdg ?_
  rw [nI_clamp (Nat.lt_trans hj hn)]
  exact kk
/-- a loop: I holds at its head with a number that falls from round to round -/
theorem hm_loop (I : Nat → Array Slot → Heap → List Loc → hM → Prop) {st : List Value} (hs : ∀ (k : Nat) (ls : Array Slot) (H : Heap) (locs : List Loc) (hh : hM), I k ls H locs hh → (∀ (k2 : Nat) (ls2 : Array Slot) (H2 : Heap) (locs2 : List Loc) (hh2 : hM), k2 < k → I k2 ls2 H2 locs2 hh2 → W p l e R s m args below meth c H2 locs2 cells slots Q (F0 m pc ls2 st)) → W p l e R s m args below meth c H locs cells slots Q (F0 m pc ls st)) {k : Nat} {hh : hM} (hi : I k ls H locs hh) : W p l e R s m args below meth c H locs cells slots Q (F0 m pc ls st) := by
  have all : ∀ (n k : Nat), k < n → ∀ (ls : Array Slot) (H : Heap) (locs : List Loc) (hh : hM), I k ls H locs hh → W p l e R s m args below meth c H locs cells slots Q (F0 m pc ls st) := by
    intro n
    induction n with
    | zero => intro k hk; exact absurd hk (Nat.not_lt_zero k)
    | succ n ih =>
      intro k hk ls H locs hh hi
      exact hs k ls H locs hh hi (fun k2 ls2 H2 locs2 hh2 hlt hi2 => ih k2 (Nat.lt_of_lt_of_le hlt (Nat.le_of_lt_succ hk)) ls2 H2 locs2 hh2 hi2)
  exact all (k + 1) k (Nat.lt_succ_self k) ls H locs hh hi
theorem h_nf {h : hM} {q b : Nat} {e : va_E} (hq : h q = none) (hb : h b = some e) : b ≠ q := fun z => by
  rw [z, hq] at hb
  cases hb
end HMJ
/-! a call's words out of the one list -/
section CW9
variable {R : Room} {s : State} {args : Array Value} {own host : String} {index maxL mc ms : Nat} {y : MethodName} {bytes : ByteArray} {ret : Option FieldType} {rm : Room}
theorem cw9B (n : Nat) (hts : ∀ w ∈ lw_g, w.before args s = true) (hc : Cond.code y bytes maxL ret ∈ lw_g) (hl : Cond.methodLink own index y ∈ lw_g) (hini : Cond.initialized y.cls ∈ lw_g) (hrc : rm.cells = mc) (hrs : rm.slots = ms)
    (hd : y.cls ≠ "java/lang/invoke/MethodHandle" ∧ y.cls ≠ "java/lang/invoke/VarHandle" ∧ (parseMethodDescriptor y.desc).map (fun d => d.parameters.length) = some n) (hR : rm.frames + 1 ≤ R.frames ∧ 8 + (maxL + 11) + rm.locals ≤ R.locals) : CallB R s args own index y bytes maxL ret (Cond.code y bytes maxL ret :: lw_g) rm mc ms n :=
  callB_of n hts (lw_good hc) rfl hrc hrs (hts _ hini) (hts _ hl) hd hR
theorem cw9N (n : Nat) (hts : ∀ w ∈ lw_g, w.before args s = true) (hc : Cond.code y bytes maxL ret ∈ lw_g) (hl : va_Nw (.methodLinkNest own index y host) s) (hini : Cond.initialized y.cls ∈ lw_g) (hrc : rm.cells = mc) (hrs : rm.slots = ms)
    (hd : y.cls ≠ "java/lang/invoke/MethodHandle" ∧ y.cls ≠ "java/lang/invoke/VarHandle" ∧ (parseMethodDescriptor y.desc).map (fun d => d.parameters.length) = some n) (hR : rm.frames + 1 ≤ R.frames ∧ 8 + (maxL + 11) + rm.locals ≤ R.locals) : va_CN R s args own index y host bytes maxL ret (Cond.code y bytes maxL ret :: lw_g) rm mc ms n :=
  va_cnB n hts (lw_good hc) rfl hrc hrs hl (hts _ hini) hd hR
end CW9
/-! bytes and steps -/
theorem fitNar (x : Int32) : fits .byte (.int (vp_nar .byte x)) = true := by
  rw [vp_nar_byte]
  exact pk_fb x
theorem i32_step {x y : Int32} (h : ¬ y ≤ x) : (y.toInt - (x + 1).toInt).toNat < (y.toInt - x.toInt).toNat := by
  have h1 : x.toInt < y.toInt := by
    rw [Int32.le_iff_toInt_le] at h
    omega
  have h2 : y.toInt < 2 ^ 31 := Int32.toInt_lt y
  have h3 : -2 ^ 31 ≤ x.toInt := Int32.le_toInt x
  have h4 : (x + 1).toInt = x.toInt + 1 := by
    rw [Int32.toInt_add, show (1 : Int32).toInt = 1 from rfl]
    exact Int.bmod_eq_of_le (by omega) (by omega)
  omega
section HMY
variable {p : Program} {l : Launch} {e : Env} {R : Room} {s : State} {m : MethodId} {args : Array Value} {below : List Frame} {meth : Method} {c : Code} {H : Heap} {locs : List Loc} {cells slots : Nat} {Q : State → Prop}
variable {cc : ByteArray} {pc : Nat} {ls : Array Slot} {rest : List Value} {D : va_G} {cl : List vw_C} {a : Nat} {tys : List (ClassId × FieldType)} {G : hG} {h : hM}
/-- System.arraycopy of bytes, from the beginnings -/
theorem hm_copyb (hexec : p.tables.exec = Jvm.exec) (hb : c.code = cc) (hml : c.maxLocals = ls.size) {own : String} {index : Nat} (hown : s.vm.findClass own = some m.cls) (hlink : (Cond.methodLink own index arraycopyName).before args s = true) (hnat : (Cond.native arraycopyName).before args s = true) (hstat : (Cond.static arraycopyName).before args s = true) (hini : (Cond.initialized "java/lang/System").before args s = true)
    (hK : va_K D cl tys s) (hH : hm D cl G h H) (hLo : hLc G.P locs) (t0 : Nat) {a0 : Nat} {c0 : ClassId} {n0 n1 : Nat} {f g : Nat → Int32} (ha0 : h a0 = some (.inl (c0, n0, .inl f))) (ha1 : h a = some (.inl (c0, n1, .inl g))) (ht0 : tys[t0]? = some (c0, .byte))
    {n : Int32} (N : Nat) (hnN : n = nI N) (hN : N < 2 ^ 31) (h4 : N ≤ n0) (h5 : N ≤ n1) (hfit : sb_Fit f)
    (hframes : 1 ≤ R.frames) (hlocals : (rest.map fun v => v.category).sum + (nativeFrameWords "java/lang/System" "arraycopy" 5 + 11) ≤ R.locals) (hdg : decode cc pc = .ok (.invokestatic index, 3))
    (kk : ∀ (H1 : Heap) (locs1 : List Loc), hm D cl G (hu h a (.inl (c0, n1, .inl (va_cpy f g 0 0 N)))) H1 → H1.size = H.size → hLc G.P locs1 → W p l e R s m args below meth c H1 locs1 cells slots Q (F0 m (pc + 3) ls rest)) : W p l e R s m args below meth c H locs cells slots Q (F0 m pc ls (.int n :: .int 0 :: .ref a :: .int 0 :: .ref a0 :: rest)) := by
  subst hnN
  have hcl : (nI N).toNatClampNeg = N := nI_clamp hN
  have hti : (nI N).toInt = (N : Int) := nI_toInt hN
  have z0 : (0 : Int32).toInt = 0 := rfl
  intro T hT X
  have hc0 : H[a0]? = some (vp_cell c0 (n0, .inl f)) := hH.at ha0
  have hc1 : H[a]? = some (vp_cell c0 (n1, .inl g)) := hH.at ha1
  obtain ⟨-, k0, hk0, cm0, hkk0⟩ := (hK.2 t0 _ ht0).1 n0 (fun j => .int (f j))
  obtain ⟨vm', X', step⟩ := X.arraycopy hexec hown hlink hnat hstat hini (src := a0) (dst := a) (cs := vp_cell c0 (n0, .inl f)) (cd := vp_cell c0 (n1, .inl g)) (srcPos := 0) (destPos := 0) (n := nI N) (by rw [hT]; exact hc0) (by rw [hT]; exact hc1)
    (fun _ h => by cases h) (fun _ h => by cases h) (fun h => by cases h) (fun h => by cases h) hk0 hk0 hkk0 hkk0 (by simp [refKind]) (by decide) (by decide) (nI_pos hN)
    (by rw [z0, hti]; show ¬ _ > ((arrV c0 n0 (fun j => .int (f j))).slots.size : Int); rw [arrV_size]; omega)
    (by rw [z0, hti]; show ¬ _ > ((arrV c0 n1 (fun j => .int (g j))).slots.size : Int); rw [arrV_size]; omega)
    (fun vm₁ _ i hi => by
      rw [hcl] at hi
      have e9 : (vp_cell c0 (n0, .inl f)).slots.getD ((0 : Int32).toNatClampNeg + i) .null = .int (f i) := by
        show (arrV c0 n0 (fun j => .int (f j))).slots.getD _ _ = _
        rw [show (0 : Int32).toNatClampNeg + i = i from Nat.zero_add i, Array.getD_eq_getD_getElem?, arrV_read _ _ (by omega)]
        rfl
      refine ⟨?_, ?_⟩
      · rw [e9]
        exact hfit i
      · rw [e9]
        exact trivial)
    (g := F0 m pc ls (.int (nI N) :: .int 0 :: .ref a :: .int 0 :: .ref a0 :: rest)) rfl (by rw [hml]) (rest := rest) rfl (by rw [hb]; exact hdg) hframes (by show 2 * 0 + _ + _ ≤ _; omega)
  have e1 : copied (vp_cell c0 (n0, .inl f)) (vp_cell c0 (n1, .inl g)) 0 0 (nI N) = vp_cell c0 (n1, .inl (va_cpy f g 0 0 N)) := by
    have h6 : (0 : Nat) + N ≤ n0 := by omega
    have h7 := va_copied (fun z => .int z) c0 c0 (n1 := n1) (dp := 0) f g h6
    show (arrV c0 n1 (fun j => .int (g j))).storeRun 0 ((arrV c0 n0 (fun j => .int (f j))).stretch 0 (nI N).toNatClampNeg) = arrV c0 n1 (fun j => .int (va_cpy f g 0 0 N j))
    rw [hcl]
    exact h7
  rw [e1] at X' step
  have hl : a < H.size := hH.lt ha1
  have hheap : ((T.setVm vm').setCell a (vp_cell c0 (n1, .inl (va_cpy f g 0 0 N)))).heap = H.setIfInBounds a (vp_cell c0 (n1, .inl (va_cpy f g 0 0 N))) := by rw [← hT]; rfl
  have oq : ∀ q : Nat, q ≠ a → (H.setIfInBounds a (vp_cell c0 (n1, .inl (va_cpy f g 0 0 N))))[q]? = H[q]? := fun q hq => by simp [Array.getElem?_setIfInBounds, Ne.symm hq]
  obtain ⟨t, a1, b1⟩ := kk _ _ (hH.set (hH.ge ha1) (show (H.setIfInBounds a _)[a]? = some _ by simp [Array.getElem?_setIfInBounds, hl]) (by simp) oq) (by simp) (hLc_app hLo (fun q hq => by
      obtain ⟨z, -, hz⟩ := List.mem_map.mp hq
      rw [← hz]
      exact hH.ge ha1)) _ hheap X'
  exact ⟨t, step t a1, b1⟩
end HMY
section HML
variable {p : Program} {l : Launch} {e : Env} {R : Room} {s : State} {m : MethodId} {args : Array Value} {below : List Frame} {meth : Method} {c : Code} {H : Heap} {locs : List Loc} {cells slots : Nat} {Q : State → Prop}
variable {pc : Nat} {ls : Array Slot}
/-- a loop that makes cells -/
theorem hm_loopC (I : Nat → Array Slot → Heap → List Loc → hM → Nat → Nat → Prop) {st : List Value} (hs : ∀ (k : Nat) (ls : Array Slot) (H : Heap) (locs : List Loc) (hh : hM) (cs ss : Nat), I k ls H locs hh cs ss → (∀ (k2 : Nat) (ls2 : Array Slot) (H2 : Heap) (locs2 : List Loc) (hh2 : hM) (cs2 ss2 : Nat), k2 < k → I k2 ls2 H2 locs2 hh2 cs2 ss2 → W p l e R s m args below meth c H2 locs2 cs2 ss2 Q (F0 m pc ls2 st)) → W p l e R s m args below meth c H locs cs ss Q (F0 m pc ls st)) {k : Nat} {hh : hM} (hi : I k ls H locs hh cells slots) : W p l e R s m args below meth c H locs cells slots Q (F0 m pc ls st) := by
  have all : ∀ (n k : Nat), k < n → ∀ (ls : Array Slot) (H : Heap) (locs : List Loc) (hh : hM) (cs ss : Nat), I k ls H locs hh cs ss → W p l e R s m args below meth c H locs cs ss Q (F0 m pc ls st) := by
    intro n
    induction n with
    | zero => intro k hk; exact absurd hk (Nat.not_lt_zero k)
    | succ n ih =>
      intro k hk ls H locs hh cs ss hi
      exact hs k ls H locs hh cs ss hi (fun k2 ls2 H2 locs2 hh2 cs2 ss2 hlt hi2 => ih k2 (Nat.lt_of_lt_of_le hlt (Nat.le_of_lt_succ hk)) ls2 H2 locs2 hh2 cs2 ss2 hi2)
  exact all (k + 1) k (Nat.lt_succ_self k) ls H locs hh cells slots hi
end HML
theorem kp_none {M : List Nat} {h h1 : hM} {q : Nat} (k : kp M h h1) (hq : h1 q = none) (hm : q ∉ M) : h q = none := by
  cases h9 : h q with
  | none => rfl
  | some e =>
    have h2 := k q e h9 hm
    rw [hq] at h2
    cases h2
theorem kp_putN {M : List Nat} {h h1 : hM} {a : Nat} {e : va_E} (k : kp M h h1) (ha : h a = none) : kp M h (hu h1 a e) := fun b f hb hn => by
  rw [hu_n (fun q => by rw [q, ha] at hb; cases hb)]
  exact k b f hb hn
theorem kp_tr2 {M M' : List Nat} {h h1 h2 : hM} (k : kp M h h1) (k2 : kp M' h1 h2) (hs : ∀ a ∈ M', a ∈ M ∨ h a = none) : kp M h h2 := fun b f hb hn => k2 b f (k b f hb hn) (fun q => by
  rcases hs b q with h3 | h3
  · exact hn h3
  · rw [h3] at hb
    cases hb)
/-- the sort of a cell: an object, or an array of ints, longs, references -/
def akd : va_E → Nat
  | .inr _ => 9
  | .inl (_, _, .inl _) => 0
  | .inl (_, _, .inr (.inl _)) => 1
  | .inl (_, _, .inr (.inr (.inl _))) => 2
  | .inl (_, _, .inr (.inr (.inr (.inl _)))) => 3
  | .inl (_, _, .inr (.inr (.inr (.inr _)))) => 4
def aln : va_E → Nat
  | .inr _ => 0
  | .inl (_, n, _) => n
theorem h_neK {h : hM} {a b k1 k2 : Nat} {e f : va_E} (ha : h a = some e) (hb : h b = some f) (h1 : akd e = k1) (h2 : akd f = k2) (n : k1 ≠ k2) : a ≠ b := h_ne ha hb (fun q => n (by rw [← h1, ← h2, q]))
theorem h_neL {h : hM} {a b k1 k2 : Nat} {e f : va_E} (ha : h a = some e) (hb : h b = some f) (h1 : aln e = k1) (h2 : aln f = k2) (n : k1 ≠ k2) : a ≠ b := h_ne ha hb (fun q => n (by rw [← h1, ← h2, q]))
/-- a row of cells of one sort: fa's places are apart, and from k on each holds the cell e -/
def rowP (e : va_E) (fa : Nat → Option Nat) (k n : Nat) (h : hM) : Prop := (∀ i j, i < n → j < n → fa i = fa j → i = j) ∧ ∀ j, k ≤ j → j < n → ∃ a, fa j = some a ∧ h a = some e
theorem rowP_kp {e : va_E} {fa : Nat → Option Nat} {k n : Nat} {h h' : hM} {M : List Nat} (hs : rowP e fa k n h) (hk : kp M h h') (hM : ∀ a ∈ M, h a ≠ some e) : rowP e fa k n h' := ⟨hs.1, fun j h1 h2 => by
  obtain ⟨a, g1, g2⟩ := hs.2 j h1 h2
  exact ⟨a, g1, hk a e g2 (fun q => hM a q g2)⟩⟩
theorem rowP_put {e e' : va_E} {fa : Nat → Option Nat} {k n a : Nat} {h : hM} (hs : rowP e fa k n h) (ha : h a ≠ some e) : rowP e fa k n (hu h a e') := ⟨hs.1, fun j h1 h2 => by
  obtain ⟨b, g1, g2⟩ := hs.2 j h1 h2
  exact ⟨b, g1, by rw [hu_n (fun q => ha (by rw [← q]; exact g2))]; exact g2⟩⟩
theorem rowP_next {e : va_E} {fa : Nat → Option Nat} {k n a : Nat} {h h' : hM} {M : List Nat} (hs : rowP e fa k n h) (hk : k < n) (ha : fa k = some a) (hkp : kp (a :: M) h h') (hM : ∀ b ∈ M, h b ≠ some e) : rowP e fa (k + 1) n h' := ⟨hs.1, fun j h1 h2 => by
  obtain ⟨b, g1, g2⟩ := hs.2 j (by omega) h2
  refine ⟨b, g1, hkp b e g2 (fun q => ?_)⟩
  rcases List.mem_cons.mp q with h3 | h3
  · have := hs.1 j k h2 hk (by rw [g1, ha, h3])
    omega
  · exact hM b h3 g2⟩
theorem rowP_mono {e : va_E} {fa : Nat → Option Nat} {k k2 n : Nat} {h : hM} (hs : rowP e fa k n h) (hk : k ≤ k2) : rowP e fa k2 n h := ⟨hs.1, fun j h1 h2 => hs.2 j (Nat.le_trans hk h1) h2⟩
/-! what stays but for cells that hold E (blank sectors, which may be written) -/
def kx (E : va_E) (M : List Nat) (h h' : hM) : Prop := ∀ (b : Nat) (e : va_E), h b = some e → b ∉ M → e ≠ E → h' b = some e
theorem kx_rf {E : va_E} {M : List Nat} {h : hM} : kx E M h h := fun _ _ hb _ _ => hb
theorem kx_put {E : va_E} {M : List Nat} {h h1 : hM} {a : Nat} {e : va_E} (k : kx E M h h1) (ha : a ∈ M) : kx E M h (hu h1 a e) := fun b f hb hn he => by
  rw [hu_n (fun q => hn (by rw [q]; exact ha))]
  exact k b f hb hn he
theorem kx_trp {E : va_E} {M M' : List Nat} {h h1 h2 : hM} (k : kx E M h h1) (k2 : kp M' h1 h2) (hs : ∀ a ∈ M', a ∈ M ∨ h a = none) : kx E M h h2 := fun b f hb hn he => k2 b f (k b f hb hn he) (fun q => by
  rcases hs b q with h3 | h3
  · exact hn h3
  · rw [h3] at hb
    cases hb)
theorem kx_trx {E : va_E} {M M' : List Nat} {h h1 h2 : hM} (k : kx E M h h1) (k2 : kx E M' h1 h2) (hs : ∀ a ∈ M', a ∈ M ∨ h a = none) : kx E M h h2 := fun b f hb hn he => k2 b f (k b f hb hn he) (fun q => by
  rcases hs b q with h3 | h3
  · exact hn h3
  · rw [h3] at hb
    cases hb) he
theorem kx_at {E : va_E} {M : List Nat} {h h1 : hM} {b : Nat} {e : va_E} (k : kx E M h h1) (hb : h b = some e) (hn : b ∉ M) (he : e ≠ E) : h1 b = some e := k b e hb hn he
theorem kx_of {E : va_E} {M : List Nat} {h h1 : hM} {a : Nat} (k : kp (a :: M) h h1) (ha : h a = some E) : kx E M h h1 := fun b f hb hn he => k b f hb (fun q => by
  rcases List.mem_cons.mp q with h3 | h3
  · rw [h3, ha] at hb
    exact he (Option.some.inj hb).symm
  · exact hn h3)
