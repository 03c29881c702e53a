
/-! MY OWN ROWS: the law holds three parts of the heap side by side: the object's, the reference's, the array out. Each call may write its own part and what is new. -/
def gIn (H : Heap) (lo hi : Nat) : hG := ⟨(H, fun q => (lo ≤ q ∧ q < hi) ∨ H.size ≤ q), fun _ h => Or.inr h⟩
def gIn2 (H : Heap) (lo hi k : Nat) : hG := ⟨(H, fun q => (lo ≤ q ∧ q < hi) ∨ q = k ∨ H.size ≤ q), fun _ h => Or.inr (Or.inr h)⟩
def gNew (H : Heap) : hG := ⟨(H, fun q => H.size ≤ q), fun _ h => h⟩
abbrev P0 (s : State) : Nat → Prop := fun q => s.heap.size ≤ q
theorem hm_none {D : va_G} {cl : List vw_C} {H : Heap} : hm D cl (gNew H) (fun _ => none) H := ⟨⟨Nat.le_refl _, fun _ _ => rfl⟩, fun _ _ h => by cases h⟩
theorem kE_g {D : va_G} {t : Nat → ClassId} {G : hG} {ak av : Nat → Nat} {s : State} {H : Heap} {locs : List Loc} (hE : kE D t (gNew s.heap) ak av s) (hS : va_S (P0 s) s.heap H locs) (hH : G.H = H) (hp : ∀ q, G.P q → P0 s q) : kE D t G ak av s := by
  subst hH
  obtain ⟨k1, k2, k3, k4, z1, z2, z3, z4, z5, z6, z7⟩ := hE
  exact ⟨k1, k2, k3, k4, (vk_S.kept z1 hS.2.1).narrow hp, z2, z3, (va_Z.kept z4 hS.2.1).narrow hp, (va_Zq.kept z5 hS.2.1).narrow hp, (va_Zq.kept z6 hS.2.1).narrow hp, (va_Zq.kept z7 hS.2.1).narrow hp⟩
theorem vaS_step {D : va_G} {cl : List vw_C} {G : hG} {h : hM} {s : State} {H H1 : Heap} {locs locs1 : List Loc} (hS : va_S (P0 s) s.heap H locs) (hG : G.H = H) (hp : ∀ q, G.P q → P0 s q) (h1 : hm D cl G h H1) (hL : hLc (P0 s) locs1) : va_S (P0 s) s.heap H1 locs1 := by
  subst hG
  exact ⟨Nat.le_trans hS.1 h1.1.1, fun q hq hn => by rw [h1.1.2 q (fun z => hn (hp q z))]; exact hS.2.1 q hq hn, hL⟩
theorem in9x {D : va_G} {cl : List vw_C} {h : hM} {H0 H1 H3 : Heap} (h0 : hm D cl (gNew H0) h H1) (z : H1.size ≤ H3.size) (o : ∀ q : Nat, q < H1.size → H3[q]? = H1[q]?) : hm D cl (gIn H3 H0.size H1.size) h H3 :=
  ⟨⟨Nat.le_refl _, fun _ _ => rfl⟩, fun a e ha => ⟨Or.inl ⟨(h0.2 a e ha).1, h0.lt ha⟩, (h0.2 a e ha).2.kept (o a (h0.lt ha))⟩⟩
theorem re9 {D : va_G} {cl : List vw_C} {h h' : hM} {lo hi lo2 hi2 : Nat} {H H1 : Heap} (h0 : hm D cl (gIn H lo hi) h H) (hc : hm D cl (gIn H lo2 hi2) h' H1) (hd : hi ≤ lo2 ∨ hi2 ≤ lo) (hB : hi ≤ H.size) : hm D cl (gIn H1 lo hi) h H1 := by
  refine ⟨⟨Nat.le_refl _, fun _ _ => rfl⟩, fun a e ha => ?_⟩
  have hlt := h0.lt ha
  rcases (h0.2 a e ha).1 with h9 | h9
  · refine ⟨Or.inl h9, (h0.2 a e ha).2.kept (hc.1.2 a (fun y => ?_))⟩
    rcases y with y | y
    · omega
    · exact absurd y (Nat.not_le.mpr hlt)
  · exact absurd h9 (Nat.not_le.mpr hlt)
theorem re92 {D : va_G} {cl : List vw_C} {h h' : hM} {lo hi lo2 hi2 k : Nat} {H H1 : Heap} (h0 : hm D cl (gIn H lo hi) h H) (hc : hm D cl (gIn2 H lo2 hi2 k) h' H1) (hd : hi ≤ lo2 ∨ hi2 ≤ lo) (hk : hi ≤ k ∨ k < lo) : hm D cl (gIn H1 lo hi) h H1 := by
  refine ⟨⟨Nat.le_refl _, fun _ _ => rfl⟩, fun a e ha => ?_⟩
  have hlt := h0.lt ha
  rcases (h0.2 a e ha).1 with h9 | h9
  · refine ⟨Or.inl h9, (h0.2 a e ha).2.kept (hc.1.2 a (fun y => ?_))⟩
    rcases y with y | y | y
    · omega
    · omega
    · exact absurd y (Nat.not_le.mpr hlt)
  · exact absurd h9 (Nat.not_le.mpr hlt)
/-- one cell of a part, by itself -/
def one9 (a : Nat) (e : va_E) : hM := fun q => if q = a then some e else none
theorem one9_s (a : Nat) (e : va_E) : one9 a e a = some e := if_pos rfl
theorem one9_at {D : va_G} {cl : List vw_C} {G : hG} {h : hM} {H : Heap} {a lo hi : Nat} {e : va_E} (h0 : hm D cl G h H) (ha : h a = some e) (h1 : lo ≤ a) (h2 : a < hi) : hm D cl (gIn H lo hi) (one9 a e) H := by
  refine ⟨⟨Nat.le_refl _, fun _ _ => rfl⟩, fun b f hb => ?_⟩
  unfold one9 at hb
  split at hb
  · rename_i hq
    cases hb
    subst hq
    exact ⟨Or.inl ⟨h1, h2⟩, h0.at ha⟩
  · cases hb
theorem th9 {D : va_G} {cl : List vw_C} {G : hG} {h : hM} {H : Heap} {mo n lo hi : Nat} {th : Int32} (h0 : hm D cl G h H) (hT : ThM h mo n th) (h1 : lo ≤ mo) (h2 : mo < hi) : ∃ h2 : hM, ThM h2 mo n th ∧ (∃ fs, h2 mo = some (.inr (9, fs))) ∧ hm D cl (gIn H lo hi) h2 H := by
  obtain ⟨aBy, aSt, aDe, aPa, aIt, aId, aPr, aNa, aSi, aSe, aIw, aEx, aOl, aPl, aTa, aAt, aLo, aS1, aS2, aS3, aS4, aS5, aS6, aO1, aO2, aO3, aO4, aO5, hm9⟩ := hT
  exact ⟨one9 mo _, ⟨aBy, aSt, aDe, aPa, aIt, aId, aPr, aNa, aSi, aSe, aIw, aEx, aOl, aPl, aTa, aAt, aLo, aS1, aS2, aS3, aS4, aS5, aS6, aO1, aO2, aO3, aO4, aO5, one9_s _ _⟩, ⟨_, one9_s _ _⟩, one9_at h0 hm9 h1 h2⟩
section HMX
variable {p : Program} {l : Launch} {e : Env} {R : Room} {s : State} {m : MethodId} {args : Array Value} {below : List Frame} {meth : Method} {c : Code} {H : Heap} {locs : List Loc} {cells slots : Nat} {Q : State → Prop}
variable {pc : Nat} {ls : Array Slot} {rest st0 : List Value} {a : Array Value} {mc ms : Nat} {D : va_G} {cl : List vw_C} {G : hG} {P1 : Nat → Prop}
theorem hm_callXi {post : Int32 → hM → Prop} (hr : va_Run p l e R s m args below meth c H locs cells slots mc ms (F0 m pc ls st0) rest (hQi D cl G post a) G.P) (hLo : hLc P1 locs) (hp : ∀ q, G.P q → P1 q)
    (kk : ∀ (r : Int32) (h' : hM) (H1 : Heap) (locs1 : List Loc), post r h' → hm D cl G h' H1 → H.size ≤ H1.size → hLc P1 locs1 → W p l e R s m args below meth c H1 locs1 (cells + mc) (slots + ms) Q (F0 m (pc + 3) ls (.int r :: rest))) : W p l e R s m args below meth c H locs cells slots Q (F0 m pc ls st0) := by
  intro T hT X
  obtain ⟨v, st₀, t, T', L, h0, X', hL, e1, e2, ⟨r, h', hv, hp9, hh, hz⟩, st⟩ := hr T hT X
  cases hv
  rw [h0] at hz
  obtain ⟨t2, a1, b1⟩ := kk r h' T'.heap (locs ++ L) hp9 (by rw [e1]; exact hh) (by rw [e1]; exact hz) (hLc_app hLo (fun q hq => hp _ (hL q hq))) T' rfl X'
  exact ⟨t2, st t2 a1, b1⟩
theorem hm_callXl {post : Int64 → hM → Prop} (hr : va_Run p l e R s m args below meth c H locs cells slots mc ms (F0 m pc ls st0) rest (hQl D cl G post a) G.P) (hLo : hLc P1 locs) (hp : ∀ q, G.P q → P1 q)
    (kk : ∀ (r : Int64) (h' : hM) (H1 : Heap) (locs1 : List Loc), post r h' → hm D cl G h' H1 → H.size ≤ H1.size → hLc P1 locs1 → W p l e R s m args below meth c H1 locs1 (cells + mc) (slots + ms) Q (F0 m (pc + 3) ls (.long r :: rest))) : W p l e R s m args below meth c H locs cells slots Q (F0 m pc ls st0) := by
  intro T hT X
  obtain ⟨v, st₀, t, T', L, h0, X', hL, e1, e2, ⟨r, h', hv, hp9, hh, hz⟩, st⟩ := hr T hT X
  cases hv
  rw [h0] at hz
  obtain ⟨t2, a1, b1⟩ := kk r h' T'.heap (locs ++ L) hp9 (by rw [e1]; exact hh) (by rw [e1]; exact hz) (hLc_app hLo (fun q hq => hp _ (hL q hq))) T' rfl X'
  exact ⟨t2, st t2 a1, b1⟩
theorem hm_callXv {post : hM → Prop} (hr : va_Run p l e R s m args below meth c H locs cells slots mc ms (F0 m pc ls st0) rest (hQv D cl G post a) G.P) (hLo : hLc P1 locs) (hp : ∀ q, G.P q → P1 q)
    (kk : ∀ (h' : hM) (H1 : Heap) (locs1 : List Loc), post h' → hm D cl G h' H1 → H.size ≤ H1.size → hLc P1 locs1 → W p l e R s m args below meth c H1 locs1 (cells + mc) (slots + ms) Q (F0 m (pc + 3) ls rest)) : W p l e R s m args below meth c H locs cells slots Q (F0 m pc ls st0) := by
  intro T hT X
  obtain ⟨v, st₀, t, T', L, h0, X', hL, e1, e2, ⟨h', hv, hp9, hh, hz⟩, st⟩ := hr T hT X
  cases hv
  rw [h0] at hz
  obtain ⟨t2, a1, b1⟩ := kk h' T'.heap (locs ++ L) hp9 (by rw [e1]; exact hh) (by rw [e1]; exact hz) (hLc_app hLo (fun q hq => hp _ (hL q hq))) T' rfl X'
  exact ⟨t2, st t2 a1, b1⟩
/-- a call of a static method that has handlers -/
theorem hm_runSW {y : MethodName} {bytes cc : ByteArray} {maxL nL n index : Nat} {ret : Option FieldType} {hh : List (Nat × Nat × Nat × Nat)} {rm : Room} {Pc : Array Value → State → Prop} {Qc : Array Value → State → Outcome → State → Prop} {free : Addr → Prop} {own : String} {As : List Value} {g : JFrame}
    (S : CallFix p m c cc nL s args lw_g own) (hM : Met l y (Cond.codeWith y bytes maxL ret hh :: lw_g) rm Pc Qc mc ms free) (hcw : Cond.codeWith y bytes maxL ret hh ∈ lw_g) (hlk : Cond.methodLink own index y ∈ lw_g) (hst : Cond.static y ∈ lw_g) (hin : Cond.initialized y.cls ∈ lw_g) (hrc : rm.cells = mc) (hrs : rm.slots = ms)
    (hd : y.cls ≠ "java/lang/invoke/MethodHandle" ∧ y.cls ≠ "java/lang/invoke/VarHandle" ∧ (parseMethodDescriptor y.desc).map (fun d => d.parameters.length) = some n) (hR : rm.frames + 1 ≤ R.frames ∧ 8 + (maxL + 11) + rm.locals ≤ R.locals) (hp : PreS s H Pc As)
    (hg : g.method = m) (hn : As.length = n) (hsize : g.locals.size = nL) (hstack : g.stack = As.reverse ++ rest) (hW : 2 * g.monitorRoom + (rest.map fun v => v.category).sum ≤ 8) (hdg : decode cc g.pc = .ok (.invokestatic index, 3)) (hf : cells + mc ≤ R.cells ∧ slots + ms ≤ R.slots) :
    va_Run p l e R s m args below meth c H locs cells slots mc ms g rest (Qc As.toArray) free := by
  obtain ⟨hx, hb, hml, ho, hts⟩ := S
  have hK : Back l R p e below s args y 3 8 (PreOf R mc ms Pc) (PostOf Qc mc ms free) := va_backW (hh := hh) (bytes := bytes) (maxL := maxL) (ret := ret) hM hp.1 hrc hrs hR.1 hR.2 (pay_in hts (lw_good hcw)) List.mem_cons_self (fun a' U hW => word_at hW (Or.inl (by first | rfl | simp [Cond.onTables, Cond.keeps, Cond.steady])) (hts _ hin))
  obtain ⟨mk, methM, cM, hnamed, hmethM, -, -, -, -, -, -, hsigM⟩ := Cond.codeWith_spec (hts _ hcw)
  have hstatic : methM.isStatic = true := Cond.static_spec hnamed hmethM (hts _ hst)
  obtain ⟨kP, hkP, -⟩ := className_of_methodNamed hnamed
  have hinitP : kP.init = .initialized := Cond.initialized_spec (findClass_of_methodNamed hnamed) hkP (hts _ hin)
  have hlen : n = methM.sig.parameters.length := by
    have h2 := hd.2.2
    rw [hsigM] at h2
    exact (Option.some.inj h2).symm
  intro T hT X
  obtain ⟨vm₁, X₁, hstep₁⟩ := X.invokestatic hx ho (hts _ hlk) hnamed hmethM hstatic hkP hinitP ⟨hd.1, hd.2.1⟩ (g := g) hg (argsL := As) (rest := rest) (hn.trans hlen) hstack (by rw [hb]; exact hdg)
  obtain ⟨v, ⟨U', l2, c2, s2⟩, X', ⟨g', mk', t, L, e1, e2, hq, h1, hL, h2, h3⟩, hsteps⟩ := hK m meth c ⟨T.setVm vm₁, locs, cells, slots⟩ { g with stack := rest } (.invokestatic index) mk As.toArray X₁ hg (hsize.trans hml.symm) (by rw [hb]; exact hdg) hW (X₁.named hnamed) ⟨hf.1, hf.2, hp.2 (T.setVm vm₁) hT X₁.warmed⟩
  dsimp only [Pt.U, Pt.locs, Pt.cells, Pt.slots] at X' e1 e2 h1 h2 h3 hsteps
  subst h1; subst h2; subst h3
  exact ⟨v, (T.setVm vm₁).calling g' mk' As.toArray, t, U', L, hT, X', hL, e1, e2, hq, fun target h => hstep₁ _ fun acts => by rw [doInvoke_state]; exact hsteps.trans h⟩
end HMX
/-- the start's tables, and the script in the old heap -/
def kX (D : va_G) (t : Nat → ClassId) (G : hG) (ak av : Nat → Nat) (b L : Nat) (xs : Nat → Int32) (U : State) : Prop := kE D t G ak av U ∧ va_X b L xs U G.H ∧ b < G.H.size ∧ ¬ G.P b
theorem kX_ok {D : va_G} {t : Nat → ClassId} {G : hG} {ak av : Nat → Nat} {b L : Nat} {xs : Nat → Int32} : hKok (kX D t G ak av b L xs) :=
  ⟨fun U g mk a k => ⟨kE_ok.1 U g mk a k.1, va_X.moved (u := U) (U := U.calling g mk a) (Vm.Alike.refl U.vm) k.2.1, k.2.2⟩, fun s U hW k => ⟨kE_ok.2 s U hW k.1, va_X.moved hW.alike k.2.1, k.2.2⟩⟩
def cel (L : Nat) (xs : Nat → Int32) : Int32 := if 0 < L then xs 0 else 0
/-- two answers that say the same -/
theorem eq9 {r q a b : Int32} {P Q : Prop} (h1 : (r = a ∧ P) ∨ (r = b ∧ Q)) (h2 : (q = a ∧ P) ∨ (q = b ∧ Q)) (hPQ : P → ¬ Q) : r = q := by
  rcases h1 with ⟨rfl, p1⟩ | ⟨rfl, q1⟩
  · rcases h2 with ⟨rfl, -⟩ | ⟨-, q2⟩
    · rfl
    · exact absurd q2 (hPQ p1)
  · rcases h2 with ⟨-, p2⟩ | ⟨rfl, -⟩
    · exact absurd q1 (hPQ p2)
    · rfl
theorem sec9 {sx : Int32} {n : Nat} (hn : n ≤ 200) : (∃ j, j < n ∧ sx = nI j) → ¬ (sx < 0 ∨ nI n ≤ sx) := by
  rintro ⟨j, hj, rfl⟩ (h | h)
  · exact nI_pos (by omega) h
  · exact nI_ge hj (by omega) h
theorem FrM_mono {t : Nat → ClassId} {h h' : hM} {m n : Nat} (hM : FrM t h m n) (hk : kp [] h h') : FrM t h' m n := by
  refine FrM_elim hM ?_
  intro aBy aSt aDe aPa aIt aId aPr aNa aSi aSe aIw aEx aOl aPl aTa aAt aLo aS1 aS2 aS3 aS4 aS5 aS6 aO1 aO2 aO3 aO4 aO5 gBy gSt gDe gPa gIt gId gPr gSi gSe gIw gEx gOl gPl gTa gAt gLo gNa f_m f_aBy f_aSt f_aDe f_aPa f_aIt f_aId f_aPr f_aNa f_aSi f_aSe f_aIw f_aEx f_aOl f_aPl f_aTa f_aAt f_aLo zBy zSt zDe zIt zId zPr zSi zSe zEx ne_aIt_aId ne_aIt_aPr ne_aIt_aSi ne_aIt_aSe ne_aIt_aEx ne_aId_aPr ne_aId_aSi ne_aId_aSe ne_aId_aEx ne_aPr_aSi ne_aPr_aSe ne_aPr_aEx ne_aSi_aSe ne_aSi_aEx ne_aSe_aEx ne_aId_aAt ne_aId_aLo ne_aAt_aLo ne_aId_aOl ne_aIt_aIw ne_aId_aIw ne_aPr_aIw ne_aSi_aIw ne_aSe_aIw ne_aIw_aEx ne_aEx_aOl ne_aOl_aAt ne_aOl_aLo hn40 hn
  exact ⟨aBy, aSt, aDe, aPa, aIt, aId, aPr, aNa, aSi, aSe, aIw, aEx, aOl, aPl, aTa, aAt, aLo, aS1, aS2, aS3, aS4, aS5, aS6, aO1, aO2, aO3, aO4, aO5, gBy, gSt, gDe, gPa, gIt, gId, gPr, gSi, gSe, gIw, gEx, gOl, gPl, gTa, gAt, gLo, gNa, hk _ _ f_m nm0, hk _ _ f_aBy nm0, hk _ _ f_aSt nm0, hk _ _ f_aDe nm0, hk _ _ f_aPa nm0, hk _ _ f_aIt nm0, hk _ _ f_aId nm0, hk _ _ f_aPr nm0, hk _ _ f_aNa nm0, hk _ _ f_aSi nm0, hk _ _ f_aSe nm0, hk _ _ f_aIw nm0, hk _ _ f_aEx nm0, hk _ _ f_aOl nm0, hk _ _ f_aPl nm0, hk _ _ f_aTa nm0, hk _ _ f_aAt nm0, hk _ _ f_aLo nm0, zBy, zSt, zDe, zIt, zId, zPr, zSi, zSe, zEx, ne_aIt_aId, ne_aIt_aPr, ne_aIt_aSi, ne_aIt_aSe, ne_aIt_aEx, ne_aId_aPr, ne_aId_aSi, ne_aId_aSe, ne_aId_aEx, ne_aPr_aSi, ne_aPr_aSe, ne_aPr_aEx, ne_aSi_aSe, ne_aSi_aEx, ne_aSe_aEx, ne_aId_aAt, ne_aId_aLo, ne_aAt_aLo, ne_aId_aOl, ne_aIt_aIw, ne_aId_aIw, ne_aPr_aIw, ne_aSi_aIw, ne_aSe_aIw, ne_aIw_aEx, ne_aEx_aOl, ne_aOl_aAt, ne_aOl_aLo, hn40, hn⟩
theorem FrX_mono {t : Nat → ClassId} {h h' : hM} {x n : Nat} (hX : FrX t h x n) (hk : kp [] h h') : FrX t h' x n := by
  obtain ⟨wr, rd, ns, op, sr, md, su, pg, pb, sl, od, sa, fs, g, fa, f_x, f_wr, f_su, f_pg, f_pb, f_ns, f_sl, f_od, hgf, hnd, f_md, f_sa, hrow, ne_sl_od, hn40, hn⟩ := hX
  exact ⟨wr, rd, ns, op, sr, md, su, pg, pb, sl, od, sa, fs, g, fa, hk _ _ f_x nm0, hk _ _ f_wr nm0, hk _ _ f_su nm0, hk _ _ f_pg nm0, hk _ _ f_pb nm0, hk _ _ f_ns nm0, hk _ _ f_sl nm0, hk _ _ f_od nm0, hgf, rowP_kp hnd hk (List.forall_mem_nil _), hk _ _ f_md nm0, hk _ _ f_sa nm0, rowP_kp hrow hk (List.forall_mem_nil _), ne_sl_od, hn40, hn⟩
theorem FrX_ob {t : Nat → ClassId} {h : hM} {x n : Nat} (hX : FrX t h x n) : (∃ fs, h x = some (.inr (8, fs))) ∧ 40 ≤ n ∧ n ≤ 200 := by
  obtain ⟨wr, rd, ns, op, sr, md, su, pg, pb, sl, od, sa, fs, g, fa, f_x, f_wr, f_su, f_pg, f_pb, f_ns, f_sl, f_od, hgf, hnd, f_md, f_sa, hrow, ne_sl_od, hn40, hn⟩ := hX
  exact ⟨⟨_, f_x⟩, hn40, hn⟩
theorem FrM_ob {t : Nat → ClassId} {h : hM} {m n : Nat} (hM : FrM t h m n) : ∃ fs, h m = some (.inr (9, fs)) := by
  refine FrM_elim hM ?_
  intro aBy aSt aDe aPa aIt aId aPr aNa aSi aSe aIw aEx aOl aPl aTa aAt aLo aS1 aS2 aS3 aS4 aS5 aS6 aO1 aO2 aO3 aO4 aO5 gBy gSt gDe gPa gIt gId gPr gSi gSe gIw gEx gOl gPl gTa gAt gLo gNa f_m f_aBy f_aSt f_aDe f_aPa f_aIt f_aId f_aPr f_aNa f_aSi f_aSe f_aIw f_aEx f_aOl f_aPl f_aTa f_aAt f_aLo zBy zSt zDe zIt zId zPr zSi zSe zEx ne_aIt_aId ne_aIt_aPr ne_aIt_aSi ne_aIt_aSe ne_aIt_aEx ne_aId_aPr ne_aId_aSi ne_aId_aSe ne_aId_aEx ne_aPr_aSi ne_aPr_aSe ne_aPr_aEx ne_aSi_aSe ne_aSi_aEx ne_aSe_aEx ne_aId_aAt ne_aId_aLo ne_aAt_aLo ne_aId_aOl ne_aIt_aIw ne_aId_aIw ne_aPr_aIw ne_aSi_aIw ne_aSe_aIw ne_aIw_aEx ne_aEx_aOl ne_aOl_aAt ne_aOl_aLo hn40 hn
  exact ⟨_, f_m⟩

theorem tr_01 (k9 w9 : Int32) : treeT k9 w9 = 1 ∨ treeT k9 w9 = 0 := by
  unfold treeT
  by_cases hk : k9 = 0
  · rw [if_pos hk]
    by_cases h1 : inC w9 0 4 = 0
    · rw [if_pos h1]
      exact Or.inl rfl
    · rw [if_neg h1]
      exact Or.inr rfl
  · rw [if_neg hk]
    exact Or.inl rfl
theorem un9 {D : va_G} {cl : List vw_C} {h ho : hM} {lo hi k : Nat} {e : va_E} {H : Heap} (h0 : hm D cl (gIn H lo hi) h H) (h1 : hm D cl (gIn H k (k + 1)) ho H) (hk : ho k = some e) (hd : hi ≤ k) : hm D cl (gIn2 H lo hi k) (hu h k e) H ∧ kp [] h (hu h k e) := by
  have hn : h k = none := by
    cases h9 : h k with
    | none => rfl
    | some f =>
      have h2 := h0.lt h9
      rcases (h0.2 k f h9).1 with h3 | h3
      · omega
      · exact absurd h3 (Nat.not_le.mpr h2)
  refine ⟨⟨⟨Nat.le_refl _, fun _ _ => rfl⟩, fun a f ha => ?_⟩, kp_new kp_rf hn⟩
  by_cases hak : a = k
  · subst hak
    rw [hu_s] at ha
    cases ha
    exact ⟨Or.inr (Or.inl rfl), h1.at hk⟩
  · rw [hu_n hak] at ha
    rcases (h0.2 a f ha).1 with h3 | h3
    · exact ⟨Or.inl h3, h0.at ha⟩
    · exact ⟨Or.inr (Or.inr h3), h0.at ha⟩
theorem sw9 (v : Int32) : ∃ k, k < 32 ∧ v &&& 31 = nI k := by
  have h1 : (v &&& 31).toBitVec = v.toBitVec &&& 31#32 := rfl
  have h2 : (v &&& 31).toBitVec.toNat < 32 := by
    rw [h1, BitVec.toNat_and]
    exact Nat.lt_of_le_of_lt Nat.and_le_right (by decide)
  refine ⟨(v &&& 31).toBitVec.toNat, h2, ?_⟩
  apply Int32.toBitVec_inj.mp
  show _ = BitVec.ofNat 32 _
  rw [BitVec.ofNat_toNat]
  simp
theorem l7 {L : Nat} (hL : L ≤ 7) (h : ¬ nI L - 6 < 1) : L = 7 := by
  rcases (show L = 0 ∨ L = 1 ∨ L = 2 ∨ L = 3 ∨ L = 4 ∨ L = 5 ∨ L = 6 ∨ L = 7 by omega) with rfl | rfl | rfl | rfl | rfl | rfl | rfl | rfl <;> first | rfl | exact absurd (by decide) h
theorem mv9 {D : va_G} {cl : List vw_C} {G : hG} {h2 : hM} {H1 H2 H3 : Heap} {B : Nat} {e : va_E} (hG : G = gNew H1) (v2 : hm D cl G h2 H2) (hB : B = H2.size) (v3 : hm D cl G (hu h2 B e) H3) : hm D cl (gIn H3 H1.size B) h2 H3 ∧ hm D cl (gIn H3 B (B + 1)) (one9 B e) H3 ∧ (∀ q : Nat, q < H1.size → H3[q]? = H1[q]?) ∧ H1.size ≤ B ∧ B < H3.size := by
  subst hG
  refine ⟨⟨⟨Nat.le_refl _, fun _ _ => rfl⟩, fun a f ha => ?_⟩, one9_at v3 (hu_s _ _ _) (Nat.le_refl _) (Nat.lt_succ_self _), fun q hq => v3.1.2 q (Nat.not_le.mpr hq), by rw [hB]; exact v2.1.1, v3.lt (hu_s _ _ _)⟩
  have h9 := v2.lt ha
  have hne : a ≠ B := by omega
  exact ⟨Or.inl ⟨v2.ge ha, by omega⟩, v3.at (by rw [hu_n hne]; exact ha)⟩
