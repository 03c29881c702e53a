
/-! MY OWN ROWS: a fresh NoSuchElementException that is thrown, and a caller that catches it -/
abbrev nX : String := "java/util/NoSuchElementException"
abbrev nXn : List String := ["java/lang/RuntimeException", "java/lang/Exception"]
/-- nothing may be written -/
def nof : Nat → Prop := fun _ => False
theorem sbn_at {s s' : State} {k n : Nat} (h : s.sameButNew s' [] k n) {a : Nat} (ha : a < s.heap.size) : s'.heap[a]? = s.heap[a]? := by
  obtain ⟨c, hc⟩ : ∃ c, s.heap[a]? = some c := ⟨s.heap[a], Array.getElem?_eq_getElem ha⟩
  obtain ⟨c', h1, h2, h3, h4⟩ := h.2.2.2.2.2 a c hc
  have e : c'.slots = c.slots := Array.ext_getElem? (fun i => h4 i (fun q => by cases q))
  rw [e] at h2
  rw [h1, hc, h2]
theorem hm.ext {D : va_G} {cl : List vw_C} {G : hG} {h : hM} {H H1 : Heap} (hH : hm D cl G h H) (z : H.size ≤ H1.size) (o : ∀ a : Nat, a < H.size → H1[a]? = H[a]?) : hm D cl G h H1 :=
  ⟨⟨Nat.le_trans hH.1.1 z, fun q hq => by rw [o q (Nat.lt_of_lt_of_le (Nat.not_le.mp (fun z9 => hq (G.up q z9))) hH.1.1)]; exact hH.1.2 q hq⟩, fun a e ha => ⟨(hH.2 a e ha).1, (hH.2 a e ha).2.kept (o a (hH.lt ha))⟩⟩
/-- how a throw ends: the exception's cell is new, the old cells are as they were -/
def TE (st t : State) (x : Nat) (ce : Cell) : Prop := st.WarmedH t.vm ∧ st.sameButNew ({ t with vm := st.vm } : State) [] 1 6 ∧ t.heap[x]? = some ce ∧ ce.vm.isStatics = false ∧ st.vm.findClass nX = some ce.cls
def MT (below : List Frame) (s : State) : State → Prop := fun t => ∃ (x : Nat) (ce : Cell), t.status = .running ∧ Ended t below (.threw x) ∧ TE s t x ce
def MetT (l : Launch) (y : MethodName) (ws : List Cond) (rm : Room) (Pc : Array Value → State → Prop) : Prop :=
  MetFree l y (headSpec ws rm) Pc (fun _ _ _ _ _ => True) (fun _ st o t => ∃ (x : Nat) (ce : Cell), o = .threw x ∧ TE st t x ce)
theorem MetT.ofW {l : Launch} {y : MethodName} {ws ws' : List Cond} {rm : Room} {Pc : Array Value → State → Prop} {cc : ByteArray} {maxL : Nat} {ret : Option FieldType}
    (hy : plainName y.cls = true) (hw : ws = Cond.code y cc maxL ret :: ws')
    (body : ∀ p e s m args below meth c s₁, BodyLoose p l y (headSpec ws rm) cc maxL ret e s m args below meth c s₁ → c.maxLocals = maxL → c.exceptionTable.toList = [] → l.admits e → Pc args s →
      W p l e (headSpec ws rm).room s m args below meth c s.heap [] 0 0 (MT below s) (entryFrame m args maxL)) : MetT l y ws rm Pc := by
  refine MetFree.of_bodyS (code := cc) (maxLocals := maxL) (ret := ret) hy ?_ ?_
  · intro args s m h hn
    obtain ⟨meth, c, h1, h2, h3, h4, h5, h6, -, -⟩ := Cond.code_spec hn (atoms_spec (ws := ws) h _ (by rw [hw]; exact List.mem_cons_self))
    exact ⟨meth, c, h1, h2, h3, h4, h5, h6⟩
  · intro p e s m args below meth c s₁ B hml hP _
    have hh0 : s₁.heap = s.heap := by rw [B.state]; rfl
    have hS := Stand.of_body B
    obtain ⟨meth', c', g1, g2, -, -, -, -, g3, -⟩ := Cond.code_spec B.named (atoms_spec (ws := ws) B.pre _ (by rw [hw]; exact List.mem_cons_self))
    have htab : c.exceptionTable.toList = [] := by
      cases B.method.symm.trans g1
      cases hS.code.symm.trans g2
      have h0 : c.exceptionTable.size = 0 := by simpa [Array.isEmpty] using g3
      exact List.eq_nil_of_length_eq_zero (by simpa using h0)
    obtain ⟨t, a1, x, ce, b1, b2, b3⟩ := body p e s m args below meth c s₁ B hml htab hS.admits hP s₁ hh0 hS
    exact ⟨t, .threw x, a1, b1, b2, x, ce, rfl, b3⟩
section HMT
variable {p : Program} {l : Launch} {e : Env} {R : Room} {s : State} {m : MethodId} {args : Array Value} {below : List Frame} {meth : Method} {c : Code} {H : Heap} {locs : List Loc} {cells slots : Nat} {Q : State → Prop}
variable {cc : ByteArray} {pc : Nat} {ls : Array Slot} {rest : List Value}
/-- throw new NoSuchElementException(), in a method without handlers, behind no write -/
theorem hm_throw (hexec : p.tables.exec = Jvm.exec) (hb : c.code = cc) (hml : c.maxLocals = ls.size) (htr : e.platform.stackTraces = false) (hlk : meth.locks = false) (hout : c.exceptionTable.toList = []) {own : String} {index ic : Nat} (hown : s.vm.findClass own = some m.cls) (hat : ∀ a ∈ Bundle.ownAtoms0 own ic nX nXn, a.before args s = true) (hcl : (Cond.classLink own index nX).before args s = true) (hini : (Cond.initialized nX).before args s = true) (hz : s.heap.size ≤ H.size)
    (hcells : 1 ≤ R.cells) (hslots : 6 ≤ R.slots) (hfr : 5 < R.frames) (hlo : ((Value.ref H.size :: rest).map fun v => v.category).sum + 80 ≤ R.locals)
    (hd0 : decode cc pc = .ok (.new index, 3)) (hd3 : decode cc (pc + 3) = .ok (.dup, 1)) (hd4 : decode cc (pc + 4) = .ok (.invokespecial ic, 3)) (hd7 : decode cc (pc + 7) = .ok (.athrow, 1)) : W p l e R s m args below meth c H [] 0 0 (MT below s) (F0 m pc ls rest) := by
  have hins : (Cond.instantiable nX 6).before args s = true := hat _ (by simp [Bundle.ownAtoms0])
  refine W.newc hexec hb hown hcl hins hini (g := F0 m pc ls rest) rfl hd0 (by omega) (by omega) fun cC kC h1 h2 h3 h4 => ?_
  refine lv_dup (pc := pc + 3) hexec hb hd3 rfl ?_
  intro T hT X
  have hcell : T.heap[H.size]? = some (freshCell cC kC) := by
    rw [hT]
    simp
  obtain ⟨U, st, hrun, hend, hW, hsame, ce, hce, ho⟩ := X.ctorThrow0 hexec htr (own := own) (cls := nX) (names := nXn) (ic := ic) hown (by decide +kernel) (by decide +kernel) hat (fun x hx => by cases hx) (a := H.size) (cX := cC) (kX := kC) h1 h2 hcell hz
    (g := F0 m (pc + 3 + 1) ls (.ref H.size :: .ref H.size :: rest)) rfl hml.symm rfl rfl (rest := rest) rfl (by rw [hb]; exact hd4) (by rw [hb]; exact hd7) (fun x hx => by rw [hout] at hx; cases hx) hfr (by show 2 * 0 + _ + (13 * (2 + 1) + 41) ≤ _; omega) hlk
  exact ⟨U, st, H.size, ce, hrun, hend, hW, hsame, hce, by rw [ho.vm]; rfl, ho.cls⟩
/-- a handler of the method's own takes it, its class resolved by now or not -/
theorem hm_go {f : JFrame} {a : Nat} {S : State} {Qh : Handler → Pre} {E : CtlPost} {d : Bool} {acts : List Action} {x : ExceptionTableEntry} {k0 : ClassId} {cell : Cell} (hx : covers x f.pc = true) (h0 : x.catchType ≠ 0)
    (hl : S.vm.ClassLinks e.platform f.method.cls x.catchType k0) (hcell : S.heap[a]? = some cell) (hobj : ∀ k, cell.vm ≠ .statics k) (hk : ∃ k, S.vm.classes[cell.cls]? = some k) (hc : ∃ k, S.vm.classes[k0]? = some k) (hfit : S.vm.assignable cell.cls k0 = true) :
    wp (findHandler.go f a [x]) Qh E e d acts S ↔ Qh (.found x.handlerPc) d acts (S.setVm (S.vm.noted f.method.cls x.catchType (.cls k0))) := by
  have hx' := hx
  unfold covers at hx'
  obtain ⟨r1, r2⟩ := (resolveClass_links e.toSetting hl).op (op := VmOp.resolveClass f.method.cls x.catchType) rfl
  have al : S.vm.Alike (S.vm.noted f.method.cls x.catchType (.cls k0)) := (Vm.Alike.refl S.vm).noted _ _ _
  obtain ⟨k1, hk1⟩ := hk
  obtain ⟨k2, hk2⟩ := hc
  obtain ⟨j1, hj1, -⟩ := al.2.2 _ _ hk1
  obtain ⟨j2, hj2, -⟩ := al.2.2 _ _ hk2
  have hft : (S.vm.noted f.method.cls x.catchType (.cls k0)).assignable cell.cls k0 = true := by rw [al.assignable]; exact hfit
  simp [findHandler.go, hx', h0, r1, r2, hcell, hobj, hj1, hj2, hft, VmOp.dirties, VmOp.acts]
theorem hm_caught {T : State} (X : Stand p l e R s m args below meth c T locs cells slots) {a : Nat} {g : JFrame} (hg : g.method = m) {own : String} (hown : s.vm.findClass own = some m.cls) {x : ExceptionTableEntry} (htab : c.exceptionTable.toList = [x]) (hx : covers x g.pc = true) (h0 : x.catchType ≠ 0)
    (hlink : (Cond.classLink own x.catchType nX).before args s = true) {cell : Cell} (hcell : T.heap[a]? = some cell) (hobj : cell.vm.isStatics = false) (hcT : s.vm.findClass nX = some cell.cls) (hfit : s.vm.assignable cell.cls cell.cls = true) :
    ∃ vm', Stand p l e R s m args below meth c (T.setVm vm') locs cells slots ∧ ∀ tg, Steps p.tables e below ((T.setVm vm').setTop { g with pc := x.handlerPc, stack := [.ref a] }) tg → Steps p.tables e below ((T.setTop g).pushFrame (.throwing a)) tg := by
  subst hg
  have hpl : e.platform.magicAccessors = ({} : Platform).magicAccessors := by rw [X.admits.platform]
  obtain ⟨c', hc', hcl⟩ := Cond.classLink_spec hown hlink e.platform hpl
  cases hcT.symm.trans hc'
  obtain ⟨dk, _, _, kt, hd, _, _, _, _, hkt, _, hopen⟩ := hcl.here
  have hal := X.warmed.alike
  obtain ⟨kt', hkt', -⟩ := hal.2.2 _ _ hkt
  have hfit' : T.vm.assignable cell.cls cell.cls = true := by rw [hal.assignable]; exact hfit
  refine ⟨T.vm.noted g.method.cls x.catchType (.cls cell.cls), X.noted (X.warmed.noted hd hopen (State.rightAt_cls hcl)), fun tg hrest => ?_⟩
  obtain ⟨hgo, hw⟩ := X.here.throwing (g := g) a
  refine Steps.head hgo hw ?_
  rw [stepThread_throwing (frames_entered X.here.top _)]
  have hv := Stand.throwing_vm T g a
  have hh := Stand.throwing_heap T g a
  have key : ∀ (Qh : Handler → Pre) (E : CtlPost) (d : Bool) (acts : List Action), wp (findHandler g a) Qh E e d acts ((T.setTop g).pushFrame (.throwing a)) ↔ Qh (.found x.handlerPc) d acts (((T.setTop g).pushFrame (.throwing a)).setVm (T.vm.noted g.method.cls x.catchType (.cls cell.cls))) := by
    intro Qh E d acts
    rw [W.findHandler_eq (meth := meth) (code := c) (by rw [hv]; exact X.method') X.code, htab, hm_go hx h0 (by rw [hv]; exact X.warmed.classLinks hcl) (by rw [hh]; exact hcell) (VmData.ne_statics_of hobj) (by rw [hv]; exact ⟨kt', hkt'⟩) (by rw [hv]; exact ⟨kt', hkt'⟩) (by rw [hv]; exact hfit'), hv]
  have hst : ∀ r : List Frame, (stepThrowing e ((T.setTop g).pushFrame (.throwing a)) a (.java g :: r)).Is ((((T.setTop g).pushFrame (.throwing a)).setVm (T.vm.noted g.method.cls x.catchType (.cls cell.cls))).setFrames (.java { g with pc := x.handlerPc, stack := [.ref a] } :: r)) [] := by
    intro r
    simp only [stepThrowing, searchFrame, vmDo]
    generalize hr : Sem.go _ e false [] ((T.setTop g).pushFrame (.throwing a)) = res
    obtain ⟨as, rfl, ha⟩ := Sem.eq_ok_of hr (a := Handler.found x.handlerPc) (s' := ((T.setTop g).pushFrame (.throwing a)).setVm (T.vm.noted g.method.cls x.catchType (.cls cell.cls))) (acts' := []) (by simp [key _ _ _ _])
    exact ⟨rfl, ha⟩
  rw [(hst _).1]
  obtain ⟨g₀, hg0⟩ := Option.isSome_iff_exists.mp X.here.top
  obtain ⟨r, hr⟩ := State.topJava?_eq_some.mp hg0
  have hr' : (T.setVm (T.vm.noted g.method.cls x.catchType (.cls cell.cls))).frames = .java g₀ :: r := hr
  rw [State.setTop_of_frames _ hr'] at hrest
  have e1 : ((T.setTop g).pushFrame (.throwing a)).setVm (T.vm.noted g.method.cls x.catchType (.cls cell.cls)) = (T.setVm (T.vm.noted g.method.cls x.catchType (.cls cell.cls))).setFrames (((T.setTop g).pushFrame (.throwing a)).frames) := by
    rw [State.pushFrame, State.setTop_of_frames _ hr, State.setFrames_setFrames]
    simp only [State.frames_setFrames _ (State.cur_lt_of_frames hr)]
    rfl
  rw [e1, State.setFrames_setFrames, hr, List.tail_cons]
  exact hrest
/-- a call of a method that throws, caught by the caller's own and only handler -/
theorem hm_callT {y : MethodName} {bytes : ByteArray} {maxL nL n index : Nat} {ret : Option FieldType} {ws : List Cond} {rm : Room} {Pc : Array Value → State → Prop} {Ts : List Cond} {own C : String} {b : Nat} {As : List Value} {x : ExceptionTableEntry}
    (S : CallFix p m c cc nL s args Ts own) (hM : MetT l y ws rm Pc) (cw : CallW R s args own C index y bytes maxL ret ws rm 1 6 n) (hp : PreV s H C b Pc As) (hn : As.length = n) (hsize : ls.size = nL) (hW : (rest.map fun v => v.category).sum ≤ 8) (hdg : decode cc pc = .ok (.invokevirtual index, 3)) (hf : cells + 1 ≤ R.cells ∧ slots + 6 ≤ R.slots)
    (htab : c.exceptionTable.toList = [x]) (hx : covers x pc = true) (h0 : x.catchType ≠ 0) (hlink : (Cond.classLink own x.catchType nX).before args s = true) (hcast : (Cond.castable nX nX).before args s = true)
    (kk : ∀ (q : Nat) (H1 : Heap), H.size ≤ H1.size → (∀ a : Nat, a < H.size → H1[a]? = H[a]?) → W p l e R s m args below meth c H1 locs (cells + 1) (slots + 6) Q (F0 m x.handlerPc ls [.ref q])) :
    W p l e R s m args below meth c H locs cells slots Q (F0 m pc ls (As.reverse ++ .ref b :: rest)) := by
  obtain ⟨⟨hrc, hrs, hfr, hlo, hws, hcw, hcode, hini, hy, hlen, hl⟩, hin, hse⟩ := cw
  obtain ⟨hexec, hb, hml, ho, -⟩ := S
  obtain ⟨hbl, ⟨cellB, hcB, hoB, hclB⟩, hPc⟩ := hp
  obtain ⟨mk, methM, hnamed, hmethM, hstM, habM⟩ := Cond.instanceMethod_spec hin
  obtain ⟨methM', cM, hmethM', hcM, -, hlM, -, -, -, hsigM⟩ := Cond.code_spec hnamed hcode
  cases hmethM.symm.trans hmethM'
  obtain ⟨c2, r2, m2, q1, q2, q3, q4, kP, hkP, hkPi⟩ := Cond.selects_spec hse
  cases hclB.symm.trans q1
  cases (State.methodFound?_of_named hnamed hy).symm.trans q2
  cases hnamed.symm.trans q3
  obtain ⟨cT1, cT2, ct1, ct2, ct3⟩ := Cond.castable_spec hcast
  cases ct1.symm.trans ct2
  intro T hT X
  have hselP : selectMethod e.platform s.vm cellB.cls mk = .method mk := by rw [Launch.admits_selectMethod X.admits]; exact q4
  obtain ⟨vm₁, X₁, hstep₁⟩ := X.invokevirtual hexec ho hl hnamed hmethM hstM hkP hkPi hy (a := b) (cell := cellB) (by rw [hT]; exact hcB) (fun z h => by rw [h] at hoB; cases hoB) hselP hmethM habM hkP hkPi
    (g := F0 m pc ls (As.reverse ++ .ref b :: rest)) rfl (argsL := As) (rest := rest) (hn.trans (hlen _ hsigM)) rfl (by rw [hb]; exact hdg)
  generalize hU : T.setVm vm₁ = U at X₁ hstep₁
  have hUh : U.heap = H := by rw [← hU]; exact hT
  generalize ha : (Value.ref b :: As).toArray = av at hstep₁ hPc
  have w2 : (Cond.code y bytes maxL ret).before av U = true := hws _ hcw _ _ X₁.warmed
  have w3 : (Cond.initialized y.cls).before av U = true := word_at X₁.warmed (Or.inl (by first | rfl | simp [Cond.onTables, Cond.keeps, Cond.steady])) hini
  have hnU := X₁.named hnamed
  obtain ⟨methY, cY, hmY, hcY, -, hlY, -, -, -, -⟩ := Cond.code_spec hnU w2
  obtain ⟨kY, hkY, -⟩ := className_of_methodNamed hnU
  have hinitY : kY.init = .initialized := Cond.initialized_spec (findClass_of_methodNamed hnU) hkY w3
  have happ : (headSpec ws rm).appliesLoose y e.platform (U.calling (F0 m pc ls rest) mk av) = true :=
    Spec.appliesLoose_calling (g := F0 m pc ls rest) X₁.here (by rw [hb]; exact hdg) hnU hkY hinitY
      (X₁.room_calling (g := F0 m pc ls rest) (R' := rm) (hsize.trans hml.symm) hmY hcY hfr (by rw [hlY]; show 2 * 0 + (rest.map fun v => v.category).sum + _ + _ ≤ _; omega) (by rw [hrc]; exact hf.1) (by rw [hrs]; exact hf.2)) (atoms_intro fun w hw => hws w hw _ _ X₁.warmed)
  obtain ⟨mid, hmid⟩ := X₁.here.above
  have hfrm : (U.setTop (F0 m pc ls rest)).frames = (.java (F0 m pc ls rest) :: mid) ++ below := by rw [State.frames_setTop' _ X₁.here.top, hmid]; rfl
  obtain ⟨o, s₂, hsteps, -, hend, hq⟩ := Steps.callFree hM p X₁.admits X₁.cas X₁.clock (acts := []) hfrm happ (hbl _ _ _ _ (hPc U hUh X₁.warmed)) trivial
  have hq' : ∃ (z : Nat) (ce : Cell), o = .threw z ∧ TE (U.calling (F0 m pc ls rest) mk av) s₂ z ce := hq
  obtain ⟨z, ce, rfl, hW₂, hsb, hce, hcs, hfc⟩ := hq'
  rw [State.frames_setTop' _ X₁.here.top] at hend
  obtain ⟨e2, q2', q3', q4', q5', q6'⟩ := id hsb
  have e3 : s₂ = ({ (U.calling (F0 m pc ls rest) mk av).setFrames s₂.frames with heap := s₂.heap, slotsUsed := s₂.slotsUsed } : State).setVm s₂.vm := by
    have h9 : s₂ = ({ s₂ with vm := (U.calling (F0 m pc ls rest) mk av).vm } : State).setVm s₂.vm := rfl
    rw [e2] at h9
    exact h9
  have hf₂ : s₂.frames = .throwing z :: .java (F0 m pc ls rest) :: U.frames.tail := hend
  have hW' : U.WarmedH s₂.vm := hW₂
  obtain ⟨g₀, hg0⟩ := Option.isSome_iff_exists.mp X₁.here.top
  obtain ⟨r, hr⟩ := State.topJava?_eq_some.mp hg0
  generalize hV : (({ U with heap := s₂.heap, slotsUsed := s₂.slotsUsed } : State).setVm s₂.vm) = V
  have hVh : V.heap = s₂.heap := by rw [← hV]; rfl
  have hs₂ : s₂ = (V.setTop (F0 m pc ls rest)).pushFrame (.throwing z) := by
    have hr' : V.frames = .java g₀ :: r := by rw [← hV]; exact hr
    refine e3.trans ?_
    rw [hf₂, State.calling_eq X₁.here.top, State.setFrames_setFrames, State.pushFrame, State.frames_setTop _ hr', State.setTop_of_frames _ hr', State.setFrames_setFrames, hr, ← hV]
    rfl
  have hsame : U.sameButNew ({ U with heap := s₂.heap, slotsUsed := s₂.slotsUsed } : State) [] 1 6 := by
    refine ⟨?_, q2', q3', q4', q5', q6'⟩
    obtain ⟨t, ht, -⟩ := State.frames_cons hr
    show ({ U with heap := s₂.heap, slotsUsed := s₂.slotsUsed } : State) = { U.setFrames U.frames with heap := s₂.heap, slotsUsed := s₂.slotsUsed }
    rw [State.setFrames_self ht]
  have XV : Stand p l e R s m args below meth c V (locs ++ []) (cells + 1) (slots + 6) := by
    rw [← hV]
    exact ⟨X₁.admits, X₁.cas, X₁.clock, X₁.frames, X₁.room, X₁.hears, X₁.method, X₁.code, (X₁.here.setHeapUsed s₂.heap s₂.slotsUsed).setVm hW'.alike, X₁.tail, State.WarmedH.trans X₁.warmed hW', X₁.limits, X₁.bytes, X₁.same.trans (hsame.setVm s.vm)⟩
  rw [List.append_nil] at XV
  have hfc' : s.vm.findClass nX = some ce.cls := by rw [← X₁.warmed.alike.findClass]; exact hfc
  cases ct1.symm.trans hfc'
  obtain ⟨vm', XC, hcat⟩ := hm_caught XV (a := z) (g := F0 m pc ls rest) rfl ho htab hx h0 hlink (by rw [hVh]; exact hce) hcs hfc' ct3
  obtain ⟨t, a1, b1⟩ := kk z V.heap (by rw [hVh, ← hUh]; exact q2') (fun a ha9 => by rw [hVh, ← hUh]; exact sbn_at hsame (by rw [hUh]; exact ha9)) (V.setVm vm') rfl XC
  refine ⟨t, hstep₁ t fun acts => ?_, b1⟩
  rw [doInvoke_state]
  refine hsteps.trans ?_
  rw [hs₂]
  exact hcat t a1
/-- a call of a method that writes nothing: the places written stay the same -/
theorem hm_callPi {a : Array Value} {mc ms : Nat} {st0 : List Value} {D : va_G} {cl : List vw_C} {G : hG} {post : Int32 → hM → Prop} (hr : va_Run p l e R s m args below meth c H locs cells slots mc ms (F0 m pc ls st0) rest (hQi D cl G post a) nof)
    (kk : ∀ (r : Int32) (h' : hM) (H1 : Heap), post r h' → hm D cl G h' H1 → H.size ≤ H1.size → W p l e R s m args below meth c H1 locs (cells + mc) (slots + ms) Q (F0 m (pc + 3) ls (.int r :: rest))) : W p l e R s m args below meth c H locs cells slots Q (F0 m pc ls st0) := by
  intro T hT X
  obtain ⟨v, st₀, t, T', L, h0, X', hL, e1, e2, ⟨r, h', hv, hp, hh, hz⟩, st⟩ := hr T hT X
  cases hv
  rw [h0] at hz
  obtain rfl : L = [] := List.eq_nil_iff_forall_not_mem.mpr (fun q hq => hL q hq)
  rw [List.append_nil] at X'
  obtain ⟨t2, a1, b1⟩ := kk r h' T'.heap hp (by rw [e1]; exact hh) (by rw [e1]; exact hz) T' rfl X'
  exact ⟨t2, st t2 a1, b1⟩
theorem hm_callPr {a : Array Value} {mc ms : Nat} {st0 : List Value} {D : va_G} {cl : List vw_C} {G : hG} {post : Option Nat → hM → Prop} (hr : va_Run p l e R s m args below meth c H locs cells slots mc ms (F0 m pc ls st0) rest (hQr D cl G post a) nof)
    (kk : ∀ (r : Option Nat) (h' : hM) (H1 : Heap), post r h' → hm D cl G h' H1 → H.size ≤ H1.size → W p l e R s m args below meth c H1 locs (cells + mc) (slots + ms) Q (F0 m (pc + 3) ls (va_rf r :: rest))) : W p l e R s m args below meth c H locs cells slots Q (F0 m pc ls st0) := by
  intro T hT X
  obtain ⟨v, st₀, t, T', L, h0, X', hL, e1, e2, ⟨r, h', hv, hp, hh, hz⟩, st⟩ := hr T hT X
  cases hv
  rw [h0] at hz
  obtain rfl : L = [] := List.eq_nil_iff_forall_not_mem.mpr (fun q hq => hL q hq)
  rw [List.append_nil] at X'
  obtain ⟨t2, a1, b1⟩ := kk r h' T'.heap hp (by rw [e1]; exact hh) (by rw [e1]; exact hz) T' rfl X'
  exact ⟨t2, st t2 a1, b1⟩
end HMT
theorem va_Zev {C n d : String} {v : Value} {A : Nat → Prop} {s : State} (h : va_Z C n d v A s s.heap) (args : Array Value) : (Term.static C n d).eval args s none [] s = some v := by
  obtain ⟨cf, kf, fi, f, a, cell, h1, h2, h3, h4, h5, h6, h7, -⟩ := h
  simp [Term.eval, State.fieldNamed?, h1, h2, h4, h5, h6, h7]
theorem isRef9 {C n d : String} {A : Nat → Prop} {s : State} {args : Array Value} (h : va_Zq C n d A s s.heap) : (Cond.isRef (.static C n d)).before args s = true := by
  rcases h with h | ⟨t, h⟩
  · simp [Cond.before, Cond.holds, Cond.value, va_Zev h args]
  · simp [Cond.before, Cond.holds, Cond.value, va_Zev h args]

/-! MY OWN ROWS: calls that write nothing, joins; contracts whose cost is told behind (MetD), and contracts that return or throw (MetR) -/
theorem hLc_nof {B : Nat → Prop} {locs : List Loc} (h : hLc nof locs) : hLc B locs := fun q hq => (h q hq).elim
section HP2
variable {p : Program} {l : Launch} {e : Env} {R : Room} {s : State} {m : MethodId} {args : Array Value} {below : List Frame} {meth : Method} {c : Code} {H : Heap} {locs : List Loc} {cells slots : Nat} {Q : State → Prop}
variable {cc : ByteArray} {pc : Nat} {ls : Array Slot} {rest : List Value}
theorem hm_callPl {a : Array Value} {mc ms : Nat} {st0 : List Value} {D : va_G} {cl : List vw_C} {G : hG} {post : Int64 → hM → Prop} (hr : va_Run p l e R s m args below meth c H locs cells slots mc ms (F0 m pc ls st0) rest (hQl D cl G post a) nof)
    (kk : ∀ (r : Int64) (h' : hM) (H1 : Heap), post r h' → hm D cl G h' H1 → H.size ≤ H1.size → W p l e R s m args below meth c H1 locs (cells + mc) (slots + ms) Q (F0 m (pc + 3) ls (.long r :: rest))) : W p l e R s m args below meth c H locs cells slots Q (F0 m pc ls st0) := by
  intro T hT X
  obtain ⟨v, st₀, t, T', L, h0, X', hL, e1, e2, ⟨r, h', hv, hp, hh, hz⟩, st⟩ := hr T hT X
  cases hv
  rw [h0] at hz
  obtain rfl : L = [] := List.eq_nil_iff_forall_not_mem.mpr (fun q hq => hL q hq)
  rw [List.append_nil] at X'
  obtain ⟨t2, a1, b1⟩ := kk r h' T'.heap hp (by rw [e1]; exact hh) (by rw [e1]; exact hz) T' rfl X'
  exact ⟨t2, st t2 a1, b1⟩
theorem hm_callPv {a : Array Value} {mc ms : Nat} {st0 : List Value} {D : va_G} {cl : List vw_C} {G : hG} {post : hM → Prop} (hr : va_Run p l e R s m args below meth c H locs cells slots mc ms (F0 m pc ls st0) rest (hQv D cl G post a) nof)
    (kk : ∀ (h' : hM) (H1 : Heap), post h' → hm D cl G h' H1 → H.size ≤ H1.size → W p l e R s m args below meth c H1 locs (cells + mc) (slots + ms) Q (F0 m (pc + 3) ls rest)) : W p l e R s m args below meth c H locs cells slots Q (F0 m pc ls st0) := by
  intro T hT X
  obtain ⟨v, st₀, t, T', L, h0, X', hL, e1, e2, ⟨h', hv, hp, hh, hz⟩, st⟩ := hr T hT X
  cases hv
  rw [h0] at hz
  obtain rfl : L = [] := List.eq_nil_iff_forall_not_mem.mpr (fun q hq => hL q hq)
  rw [List.append_nil] at X'
  obtain ⟨t2, a1, b1⟩ := kk h' T'.heap hp (by rw [e1]; exact hh) (by rw [e1]; exact hz) T' rfl X'
  exact ⟨t2, st t2 a1, b1⟩
theorem W.imp {Q' : State → Prop} {g : JFrame} (h : ∀ t, Q t → Q' t) (k : W p l e R s m args below meth c H locs cells slots Q g) : W p l e R s m args below meth c H locs cells slots Q' g := fun T hT X => by
  obtain ⟨t, a, b⟩ := k T hT X
  exact ⟨t, a, h t b⟩
end HP2
/-! a cost that is told behind -/
def MQD (below : List Frame) (Qd : Nat → Nat → Array Value → State → Outcome → State → Prop) (a : Array Value) (s : State) (free : Addr → Prop) : State → Prop := fun t => ∃ k n, MQ below (Qd k n) a s k n free t
def MetD (l : Launch) (y : MethodName) (ws : List Cond) (rm : Room) (Pc : Array Value → State → Prop) (Qd : Nat → Nat → Array Value → State → Outcome → State → Prop) (free : Addr → Prop) : Prop :=
  MetFree l y (headSpec ws rm) Pc (fun _ _ _ _ _ => True) (fun a st o t => ∃ k n, Qd k n a st o t ∧ ∃ L, FrameEnd st o t L k n ∧ ∀ q ∈ L, free q.base)
theorem MetD.ofW {l : Launch} {y : MethodName} {ws ws' : List Cond} {rm : Room} {Pc : Array Value → State → Prop} {Qd : Nat → Nat → Array Value → State → Outcome → State → Prop} {free : Addr → Prop} {cc : ByteArray} {maxL : Nat} {ret : Option FieldType}
    (hy : plainName y.cls = true) (hw : ws = Cond.code y cc maxL ret :: ws')
    (body : ∀ p e s m args below meth c s₁, BodyLoose p l y (headSpec ws rm) cc maxL ret e s m args below meth c s₁ → c.maxLocals = maxL → Pc args s →
      W p l e (headSpec ws rm).room s m args below meth c s.heap [] 0 0 (MQD below Qd args s free) (entryFrame m args maxL)) : MetD l y ws rm Pc Qd free := by
  refine MetFree.of_bodyS (code := cc) (maxLocals := maxL) (ret := ret) hy ?_ ?_
  · intro args s m h hn
    obtain ⟨meth, c, h1, h2, h3, h4, h5, h6, -, -⟩ := Cond.code_spec hn (atoms_spec (ws := ws) h _ (by rw [hw]; exact List.mem_cons_self))
    exact ⟨meth, c, h1, h2, h3, h4, h5, h6⟩
  · intro p e s m args below meth c s₁ B hml hP _
    have hh0 : s₁.heap = s.heap := by rw [B.state]; rfl
    obtain ⟨t, a1, k, n, o, b1, b2, b3⟩ := body p e s m args below meth c s₁ B hml hP s₁ hh0 (Stand.of_body B)
    exact ⟨t, o, a1, b1, b2, k, n, b3.1, b3.2⟩
def PostD (Qd : Nat → Nat → Array Value → State → Outcome → State → Prop) (free : Addr → Prop) : Pt → Array Value → Option Value → Pt → Prop := fun A a v B =>
  ∃ (g : JFrame) (mk : MethodId) (t : State) (L : List Loc) (k n : Nat), B.U.heap = t.heap ∧ B.U.vm = t.vm ∧ Qd k n a (A.U.calling g mk a) (.returned v) t ∧ B.locs = A.locs ++ L ∧ (∀ q ∈ L, free q.base) ∧ B.cells = A.cells + k ∧ B.slots = A.slots + n
theorem back_ofD {l : Launch} {R : Room} {p : Program} {e : Env} {below : List Frame} {s : State} {sargs : Array Value} {y : MethodName} {len W : Nat} {ws : List Cond} {rm : Room} {Pc : Array Value → State → Prop} {Qd : Nat → Nat → Array Value → State → Outcome → State → Prop} {mc ms : Nat} {free : Addr → Prop} {bytes : ByteArray} {maxL : Nat} {ret : Option FieldType}
    (hM : MetD l y ws rm Pc Qd free) (hblind : FrameBlind Pc) (hrc : rm.cells = mc) (hrs : rm.slots = ms)
    (hframes : rm.frames + 1 ≤ R.frames) (hlocals : W + (maxL + 11) + rm.locals ≤ R.locals)
    (hws : ∀ w ∈ ws, ∀ a' U, s.WarmedH U.vm → w.before a' U = true) (hcode : Cond.code y bytes maxL ret ∈ ws) (hinit : ∀ a' U, s.WarmedH U.vm → (Cond.initialized y.cls).before a' U = true) :
    Back l R p e below s sargs y len W (PreOf R mc ms Pc) (PostD Qd free) := by
  refine Back.of_free (S := headSpec ws rm) (P := Pc) (K := fun _ _ _ _ _ => True) (Q := fun a st o t => ∃ k n, Qd k n a st o t ∧ ∃ L, FrameEnd st o t L k n ∧ ∀ q ∈ L, free q.base) (bytes := bytes) (maxL := maxL) (ret := ret)
    (E := fun a st o t L k n => Qd k n a st o t ∧ ∀ q ∈ L, free q.base) hM hframes hlocals ?_ ?_ (fun _ _ _ _ _ _ _ _ _ => trivial) ?_ ?_
  · intro m meth c A a X hp
    exact ⟨atoms_intro fun w hw => hws w hw _ _ X.warmed, hws _ hcode _ _ X.warmed, hinit _ _ X.warmed, by rw [show (headSpec ws rm).room.cells = mc from hrc]; exact hp.1, by rw [show (headSpec ws rm).room.slots = ms from hrs]; exact hp.2.1⟩
  · intro m meth c A a g mk X hp
    exact hblind _ _ _ _ hp.2.2
  · intro a st o t ⟨k, n, hq, L, hF, hL⟩
    exact ⟨L, k, n, hF, hq, hL⟩
  · intro m meth c A a g mk v t L k n X hp hq hF ⟨hQ, hL⟩
    exact ⟨g, mk, t, L, k, n, rfl, rfl, hQ, rfl, hL, rfl, rfl⟩
def va_RunD (p : Program) (l : Launch) (e : Env) (R : Room) (s : State) (m : MethodId) (args : Array Value) (below : List Frame) (meth : Method) (c : Code) (H : Heap) (locs : List Loc) (cells slots : Nat) (g : JFrame) (rest : List Value) (Qa : Nat → Nat → State → Outcome → State → Prop) (free : Addr → Prop) : Prop :=
  ∀ T : State, T.heap = H → Stand p l e R s m args below meth c T locs cells slots → ∃ (v : Option Value) (st₀ t T' : State) (L : List Loc) (k n : Nat), st₀.heap = H ∧ Stand p l e R s m args below meth c T' (locs ++ L) (cells + k) (slots + n) ∧ (∀ q ∈ L, free q.base) ∧ T'.heap = t.heap ∧ T'.vm = t.vm ∧ Qa k n st₀ (.returned v) t ∧
    Goes p e below T g T' { g with pc := g.pc + 3, stack := v.toList ++ rest }
section VARD
variable {p : Program} {l : Launch} {e : Env} {R : Room} {s : State} {m : MethodId} {args : Array Value} {below : List Frame} {meth : Method} {c : Code} {H : Heap} {locs : List Loc} {cells slots : Nat} {Q : State → Prop}
variable {y : MethodName} {bytes cc : ByteArray} {maxL nL mc ms n index : Nat} {ret : Option FieldType} {ws : List Cond} {rm : Room} {Pc : Array Value → State → Prop} {Qd : Nat → Nat → Array Value → State → Outcome → State → Prop} {free : Addr → Prop} {Ts : List Cond} {own C host : String} {b : Addr} {As rest : List Value} {g : JFrame}
theorem va_runVD (S : CallFix p m c cc nL s args Ts own) (hM : MetD l y ws rm Pc Qd free) (cw : CallW R s args own C index y bytes maxL ret ws rm mc ms n) (hp : PreV s H C b Pc As)
    (hg : g.method = m) (hn : As.length = n) (hsize : g.locals.size = nL) (hstack : g.stack = As.reverse ++ .ref b :: rest) (hW : 2 * g.monitorRoom + (rest.map fun v => v.category).sum ≤ 8) (hdg : decode cc g.pc = .ok (.invokevirtual index, 3)) (hf : cells + mc ≤ R.cells ∧ slots + ms ≤ R.slots) :
    va_RunD p l e R s m args below meth c H locs cells slots g rest (fun k n => Qd k n (Value.ref b :: As).toArray) free := by
  obtain ⟨⟨hrc, hrs, hfr, hlo, hws, hcw, hcode, hini, hy, hlen, hl⟩, hin, hse⟩ := cw
  have hK : Back l R p e below s args y 3 8 (PreOf R mc ms Pc) (PostD Qd free) := back_ofD (bytes := bytes) (maxL := maxL) (ret := ret) hM hp.1 hrc hrs hfr hlo hws hcw (fun a' U hW => word_at hW (Or.inl (by first | rfl | simp [Cond.onTables, Cond.keeps, Cond.steady])) hini)
  obtain ⟨hx, hb, hml, ho, -⟩ := S
  obtain ⟨-, ⟨cellB, hcB, hoB, hclB⟩, hPc⟩ := hp
  intro T hT X
  obtain ⟨v, vm₁, ⟨U', l2, c2, s2⟩, hW₁, X', ⟨g', mk, t, L, k, n9, e1, e2, hq, h1, hL, h2, h3⟩, st⟩ := callV X hx (C := C) (bytes := bytes) (maxL := maxL) (ret := ret) ho hl hin hse hcode hy hK (by rw [hT]; exact hcB) hoB hclB hg (hsize.trans hml.symm) (argsL := As) (rest := rest) (fun sig h => hn.trans (hlen sig h)) hstack hW (by rw [hb]; exact hdg)
    (fun vm₁ hW₁ => ⟨hf.1, hf.2, hPc (T.setVm vm₁) hT hW₁⟩)
  dsimp only [Pt.U, Pt.locs, Pt.cells, Pt.slots] at X' e1 e2 h1 h2 h3 st
  subst h1; subst h2; subst h3
  exact ⟨v, (T.setVm vm₁).calling g' mk (Value.ref b :: As).toArray, t, U', L, k, n9, hT, X', hL, e1, e2, hq, st⟩
theorem va_runVND (S : CallFix p m c cc nL s args Ts own) (hM : MetD l y ws rm Pc Qd free) (cw : va_CN R s args own index y host bytes maxL ret ws rm mc ms n ∧ (Cond.instanceMethod y).before args s = true ∧ (Cond.selects C y y).before args s = true) (hp : PreV s H C b Pc As)
    (hg : g.method = m) (hn : As.length = n) (hsize : g.locals.size = nL) (hstack : g.stack = As.reverse ++ .ref b :: rest) (hW : 2 * g.monitorRoom + (rest.map fun v => v.category).sum ≤ 8) (hdg : decode cc g.pc = .ok (.invokevirtual index, 3)) (hf : cells + mc ≤ R.cells ∧ slots + ms ≤ R.slots) :
    va_RunD p l e R s m args below meth c H locs cells slots g rest (fun k n => Qd k n (Value.ref b :: As).toArray) free := by
  obtain ⟨⟨⟨hrc, hrs, hfr, hlo, hws, hcw⟩, hcode, hini, hy, hlen, hl⟩, hx1, hx2⟩ := cw
  have hK : Back l R p e below s args y 3 8 (PreOf R mc ms Pc) (PostD Qd free) := back_ofD (bytes := bytes) (maxL := maxL) (ret := ret) hM hp.1 hrc hrs hfr hlo hws hcw (fun a' U hW => word_at hW (Or.inl (by first | rfl | simp [Cond.onTables, Cond.keeps, Cond.steady])) hini)
  obtain ⟨hx, hb, hml, ho, -⟩ := S
  obtain ⟨-, ⟨cellB, hcB, hoB, hclB⟩, hPc⟩ := hp
  intro T hT X
  obtain ⟨v, vm₁, ⟨U', l2, c2, s2⟩, hW₁, X', ⟨g', mk, t, L, k, n9, e1, e2, hq, h1, hL, h2, h3⟩, st⟩ := va_callVN X hx (C := C) (bytes := bytes) (maxL := maxL) (ret := ret) ho hl hx1 hx2 hcode hy hK (by rw [hT]; exact hcB) hoB hclB hg (hsize.trans hml.symm) (argsL := As) (rest := rest) (fun sig h => hn.trans (hlen sig h)) hstack hW (by rw [hb]; exact hdg)
    (fun vm₁ hW₁ => ⟨hf.1, hf.2, hPc (T.setVm vm₁) hT hW₁⟩)
  dsimp only [Pt.U, Pt.locs, Pt.cells, Pt.slots] at X' e1 e2 h1 h2 h3 st
  subst h1; subst h2; subst h3
  exact ⟨v, (T.setVm vm₁).calling g' mk (Value.ref b :: As).toArray, t, U', L, k, n9, hT, X', hL, e1, e2, hq, st⟩
variable {pc : Nat} {ls : Array Slot} {st0 : List Value} {a : Array Value} {D : va_G} {cl : List vw_C} {G : hG}
theorem hm_callDi {post : Nat → Nat → Int32 → hM → Prop} (hr : va_RunD p l e R s m args below meth c H locs cells slots (F0 m pc ls st0) rest (fun k n => hQi D cl G (post k n) a) G.P) (hLo : hLc G.P locs)
    (kk : ∀ (r : Int32) (h' : hM) (H1 : Heap) (locs1 : List Loc) (k n : Nat), post k n r h' → hm D cl G h' H1 → H.size ≤ H1.size → hLc G.P locs1 → W p l e R s m args below meth c H1 locs1 (cells + k) (slots + n) Q (F0 m (pc + 3) ls (.int r :: rest))) : W p l e R s m args below meth c H locs cells slots Q (F0 m pc ls st0) := by
  intro T hT X
  obtain ⟨v, st₀, t, T', L, k, n, h0, X', hL, e1, e2, ⟨r, h', hv, hp, hh, hz⟩, st⟩ := hr T hT X
  cases hv
  rw [h0] at hz
  obtain ⟨t2, a1, b1⟩ := kk r h' T'.heap (locs ++ L) k n hp (by rw [e1]; exact hh) (by rw [e1]; exact hz) (hLc_app hLo hL) T' rfl X'
  exact ⟨t2, st t2 a1, b1⟩
theorem hm_callDv {post : Nat → Nat → hM → Prop} (hr : va_RunD p l e R s m args below meth c H locs cells slots (F0 m pc ls st0) rest (fun k n => hQv D cl G (post k n) a) G.P) (hLo : hLc G.P locs)
    (kk : ∀ (h' : hM) (H1 : Heap) (locs1 : List Loc) (k n : Nat), post k n h' → hm D cl G h' H1 → H.size ≤ H1.size → hLc G.P locs1 → W p l e R s m args below meth c H1 locs1 (cells + k) (slots + n) Q (F0 m (pc + 3) ls rest)) : W p l e R s m args below meth c H locs cells slots Q (F0 m pc ls st0) := by
  intro T hT X
  obtain ⟨v, st₀, t, T', L, k, n, h0, X', hL, e1, e2, ⟨h', hv, hp, hh, hz⟩, st⟩ := hr T hT X
  cases hv
  rw [h0] at hz
  obtain ⟨t2, a1, b1⟩ := kk h' T'.heap (locs ++ L) k n hp (by rw [e1]; exact hh) (by rw [e1]; exact hz) (hLc_app hLo hL) T' rfl X'
  exact ⟨t2, st t2 a1, b1⟩
end VARD
/-- System.arraycopy of bytes from the beginnings, the number given as it stands -/
theorem i_nI {x : Int32} (h : 0 ≤ x.toInt) : x = nI x.toInt.toNat := Int32.toInt_inj.mp (by
  have h2 := Int32.toInt_lt x
  rw [nI_toInt (by omega)]
  omega)
section LVQ
variable {p : Program} {l : Launch} {e : Env} {R : Room} {s : State} {m : MethodId} {args : Array Value} {below : List Frame} {meth : Method} {c : Code} {H : Heap} {locs : List Loc} {cells slots : Nat} {Q : State → Prop}
variable {cc : ByteArray} {pc : Nat} {ls : Array Slot} {rest : List Value}
theorem lv_aload_nQ (hexec : p.tables.exec = Jvm.exec) (hb : c.code = cc) {k : Fin 4} {i : Nat} {o : Option Nat} (hdg : decode cc pc = .ok (.aload_n k, 1)) (hi : (k : Nat) = i) (hl : ls[i]? = some (.val (va_rf o)))
    (kk : W p l e R s m args below meth c H locs cells slots Q (F0 m (pc + 1) ls (va_rf o :: rest))) : W p l e R s m args below meth c H locs cells slots Q (F0 m pc ls rest) := by
  cases o with
  | none => exact lv_aload_nN hexec hb hdg hi hl kk
  | some x => exact lv_aload_n hexec hb hdg hi hl kk
theorem lv_aloadQ (hexec : p.tables.exec = Jvm.exec) (hb : c.code = cc) {i : Nat} {o : Option Nat} (hdg : decode cc pc = .ok (.aload i, 2)) (hl : ls[i]? = some (.val (va_rf o)))
    (kk : W p l e R s m args below meth c H locs cells slots Q (F0 m (pc + 2) ls (va_rf o :: rest))) : W p l e R s m args below meth c H locs cells slots Q (F0 m pc ls rest) := by
  cases o with
  | none => exact lv_aloadN hexec hb hdg hl kk
  | some x => exact lv_aload hexec hb hdg hl kk
theorem lv_astore_nQ (hexec : p.tables.exec = Jvm.exec) (hb : c.code = cc) {k : Fin 4} {i nL : Nat} {o : Option Nat} {lv lv' : List (Nat × Value)} (hdg : decode cc pc = .ok (.astore_n k, 1)) (hi : (k : Nat) = i) (h : lv_has ls nL lv) (hn : i < nL) (hl : (i, va_rf o) :: lv.filter (fun q => !(q.1 == i) && !(q.1 + 1 == i && q.2.category == 2)) = lv')
    (kk : ∀ ls', lv_has ls' nL lv' → W p l e R s m args below meth c H locs cells slots Q (F0 m (pc + 1) ls' rest)) : W p l e R s m args below meth c H locs cells slots Q (F0 m pc ls (va_rf o :: rest)) := by
  cases o with
  | none => exact lv_astore_nN hexec hb hdg hi h hn hl kk
  | some x => exact lv_astore_n hexec hb hdg hi h hn hl kk
theorem lv_astoreQ (hexec : p.tables.exec = Jvm.exec) (hb : c.code = cc) {i nL : Nat} {o : Option Nat} {lv lv' : List (Nat × Value)} (hdg : decode cc pc = .ok (.astore i, 2)) (h : lv_has ls nL lv) (hn : i < nL) (hl : (i, va_rf o) :: lv.filter (fun q => !(q.1 == i) && !(q.1 + 1 == i && q.2.category == 2)) = lv')
    (kk : ∀ ls', lv_has ls' nL lv' → W p l e R s m args below meth c H locs cells slots Q (F0 m (pc + 2) ls' rest)) : W p l e R s m args below meth c H locs cells slots Q (F0 m pc ls (va_rf o :: rest)) := by
  cases o with
  | none => exact lv_astoreN hexec hb hdg h hn hl kk
  | some x => exact lv_astore hexec hb hdg h hn hl kk
end LVQ
section CUT
variable {p : Program} {l : Launch} {e : Env} {R : Room} {s : State} {m : MethodId} {args : Array Value} {below : List Frame} {meth : Method} {c : Code} {H : Heap} {locs : List Loc} {cells slots : Nat} {Q : State → Prop} {g : JFrame}
/-- a join: several ways come to pc2, there the rest is walked once -/
theorem hm_cut {α : Type} (I : α → Array Slot → Heap → List Loc → hM → Prop) (pc2 : Nat) (st2 : α → List Value) (h2 : ∀ (x : α) (ls : Array Slot) (H : Heap) (locs : List Loc) (hh : hM), I x ls H locs hh → W p l e R s m args below meth c H locs cells slots Q (F0 m pc2 ls (st2 x)))
    (h1 : (∀ (x : α) (ls : Array Slot) (H : Heap) (locs : List Loc) (hh : hM), I x ls H locs hh → W p l e R s m args below meth c H locs cells slots Q (F0 m pc2 ls (st2 x))) → W p l e R s m args below meth c H locs cells slots Q g) : W p l e R s m args below meth c H locs cells slots Q g := h1 h2
theorem hm_cutC {α : Type} (I : α → Array Slot → Heap → List Loc → hM → Nat → Nat → Prop) (pc2 : Nat) (st2 : α → List Value) (h2 : ∀ (x : α) (ls : Array Slot) (H : Heap) (locs : List Loc) (hh : hM) (cs ss : Nat), I x ls H locs hh cs ss → W p l e R s m args below meth c H locs cs ss Q (F0 m pc2 ls (st2 x)))
    (h1 : (∀ (x : α) (ls : Array Slot) (H : Heap) (locs : List Loc) (hh : hM) (cs ss : Nat), I x ls H locs hh cs ss → W p l e R s m args below meth c H locs cs ss Q (F0 m pc2 ls (st2 x))) → W p l e R s m args below meth c H locs cells slots Q g) : W p l e R s m args below meth c H locs cells slots Q g := h1 h2
end CUT
section TOD
variable {p : Program} {l : Launch} {e : Env} {R : Room} {s : State} {m : MethodId} {args : Array Value} {below : List Frame} {meth : Method} {c : Code} {H : Heap} {locs : List Loc} {cells slots : Nat} {g : JFrame} {free : Addr → Prop}
theorem W.toD {Qd : Nat → Nat → Array Value → State → Outcome → State → Prop} (k : W p l e R s m args below meth c H locs cells slots (MQ below (Qd cells slots) args s cells slots free) g) : W p l e R s m args below meth c H locs cells slots (MQD below Qd args s free) g := W.imp (fun _ h => ⟨cells, slots, h⟩) k
end TOD
/-! it returns, or it throws a fresh NoSuchElementException behind no write -/
def MetR (l : Launch) (y : MethodName) (ws : List Cond) (rm : Room) (Pc : Array Value → State → Prop) (Qc : Array Value → State → Outcome → State → Prop) (free : Addr → Prop) : Prop :=
  MetFree l y (headSpec ws rm) Pc (fun _ _ _ _ _ => True) (fun a st o t => (Qc a st o t ∧ ∃ L, FrameEnd st o t L 0 0 ∧ ∀ q ∈ L, free q.base) ∨ ∃ (x : Nat) (ce : Cell), o = .threw x ∧ TE st t x ce)
theorem MetR.ofW {l : Launch} {y : MethodName} {ws ws' : List Cond} {rm : Room} {Pc : Array Value → State → Prop} {Qc : Array Value → State → Outcome → State → Prop} {free : Addr → Prop} {cc : ByteArray} {maxL : Nat} {ret : Option FieldType}
    (hy : plainName y.cls = true) (hw : ws = Cond.code y cc maxL ret :: ws')
    (body : ∀ p e s m args below meth c s₁, BodyLoose p l y (headSpec ws rm) cc maxL ret e s m args below meth c s₁ → c.maxLocals = maxL → c.exceptionTable.toList = [] → l.admits e → Pc args s →
      W p l e (headSpec ws rm).room s m args below meth c s.heap [] 0 0 (fun t => MQ below Qc args s 0 0 free t ∨ MT below s t) (entryFrame m args maxL)) : MetR l y ws rm Pc Qc free := by
  refine MetFree.of_bodyS (code := cc) (maxLocals := maxL) (ret := ret) hy ?_ ?_
  · intro args s m h hn
    obtain ⟨meth, c, h1, h2, h3, h4, h5, h6, -, -⟩ := Cond.code_spec hn (atoms_spec (ws := ws) h _ (by rw [hw]; exact List.mem_cons_self))
    exact ⟨meth, c, h1, h2, h3, h4, h5, h6⟩
  · intro p e s m args below meth c s₁ B hml hP _
    have hh0 : s₁.heap = s.heap := by rw [B.state]; rfl
    have hS := Stand.of_body B
    obtain ⟨meth', c', g1, g2, -, -, -, -, g3, -⟩ := Cond.code_spec B.named (atoms_spec (ws := ws) B.pre _ (by rw [hw]; exact List.mem_cons_self))
    have htab : c.exceptionTable.toList = [] := by
      cases B.method.symm.trans g1
      cases hS.code.symm.trans g2
      have h0 : c.exceptionTable.size = 0 := by simpa [Array.isEmpty] using g3
      exact List.eq_nil_of_length_eq_zero (by simpa using h0)
    obtain ⟨t, a1, hq⟩ := body p e s m args below meth c s₁ B hml htab hS.admits hP s₁ hh0 hS
    rcases hq with ⟨o, b1, b2, b3⟩ | ⟨x, ce, b1, b2, b3⟩
    · exact ⟨t, o, a1, b1, b2, Or.inl b3⟩
    · exact ⟨t, .threw x, a1, b1, b2, Or.inr ⟨x, ce, rfl, b3⟩⟩
section HMR
variable {p : Program} {l : Launch} {e : Env} {R : Room} {s : State} {m : MethodId} {args : Array Value} {below : List Frame} {meth : Method} {c : Code} {H : Heap} {locs : List Loc} {cells slots : Nat} {Q : State → Prop}
variable {cc : ByteArray} {pc : Nat} {ls : Array Slot} {rest : List Value}
/-- a call of such a method, its exception caught by the caller's own and only handler -/
theorem hm_callR {y : MethodName} {bytes : ByteArray} {maxL nL n index : Nat} {ret : Option FieldType} {ws : List Cond} {rm : Room} {Pc : Array Value → State → Prop} {Qc : Array Value → State → Outcome → State → Prop} {free : Addr → Prop} {Ts : List Cond} {own C : String} {b : Nat} {As : List Value} {x : ExceptionTableEntry}
    (S : CallFix p m c cc nL s args Ts own) (hM : MetR l y ws rm Pc Qc free) (cw : CallW R s args own C index y bytes maxL ret ws rm 1 6 n) (hp : PreV s H C b Pc As) (hn : As.length = n) (hsize : ls.size = nL) (hW : (rest.map fun v => v.category).sum ≤ 8) (hdg : decode cc pc = .ok (.invokevirtual index, 3)) (hf : cells + 1 ≤ R.cells ∧ slots + 6 ≤ R.slots)
    (htab : c.exceptionTable.toList = [x]) (hx : covers x pc = true) (h0 : x.catchType ≠ 0) (hlink : (Cond.classLink own x.catchType nX).before args s = true) (hcast : (Cond.castable nX nX).before args s = true)
    (kr : ∀ (v : Option Value) (st t : State) (L : List Loc), st.heap = H → Qc (Value.ref b :: As).toArray st (.returned v) t → (∀ q ∈ L, free q.base) → W p l e R s m args below meth c t.heap (locs ++ L) (cells + 0) (slots + 0) Q (F0 m (pc + 3) ls (v.toList ++ rest)))
    (kk : ∀ (q : Nat) (H1 : Heap), H.size ≤ H1.size → (∀ a : Nat, a < H.size → H1[a]? = H[a]?) → W p l e R s m args below meth c H1 locs (cells + 1) (slots + 6) Q (F0 m x.handlerPc ls [.ref q])) :
    W p l e R s m args below meth c H locs cells slots Q (F0 m pc ls (As.reverse ++ .ref b :: rest)) := by
  obtain ⟨⟨hrc, hrs, hfr, hlo, hws, hcw, hcode, hini, hy, hlen, hl⟩, hin, hse⟩ := cw
  obtain ⟨hexec, hb, hml, ho, -⟩ := S
  obtain ⟨hbl, ⟨cellB, hcB, hoB, hclB⟩, hPc⟩ := hp
  obtain ⟨mk, methM, hnamed, hmethM, hstM, habM⟩ := Cond.instanceMethod_spec hin
  obtain ⟨methM', cM, hmethM', hcM, -, hlM, -, -, -, hsigM⟩ := Cond.code_spec hnamed hcode
  cases hmethM.symm.trans hmethM'
  obtain ⟨c2, r2, m2, q1, q2, q3, q4, kP, hkP, hkPi⟩ := Cond.selects_spec hse
  cases hclB.symm.trans q1
  cases (State.methodFound?_of_named hnamed hy).symm.trans q2
  cases hnamed.symm.trans q3
  obtain ⟨cT1, cT2, ct1, ct2, ct3⟩ := Cond.castable_spec hcast
  cases ct1.symm.trans ct2
  intro T hT X
  have hselP : selectMethod e.platform s.vm cellB.cls mk = .method mk := by rw [Launch.admits_selectMethod X.admits]; exact q4
  obtain ⟨vm₁, X₁, hstep₁⟩ := X.invokevirtual hexec ho hl hnamed hmethM hstM hkP hkPi hy (a := b) (cell := cellB) (by rw [hT]; exact hcB) (fun z h => by rw [h] at hoB; cases hoB) hselP hmethM habM hkP hkPi
    (g := F0 m pc ls (As.reverse ++ .ref b :: rest)) rfl (argsL := As) (rest := rest) (hn.trans (hlen _ hsigM)) rfl (by rw [hb]; exact hdg)
  generalize hU : T.setVm vm₁ = U at X₁ hstep₁
  have hUh : U.heap = H := by rw [← hU]; exact hT
  generalize ha : (Value.ref b :: As).toArray = av at hstep₁ hPc kr
  have w2 : (Cond.code y bytes maxL ret).before av U = true := hws _ hcw _ _ X₁.warmed
  have w3 : (Cond.initialized y.cls).before av U = true := word_at X₁.warmed (Or.inl (by first | rfl | simp [Cond.onTables, Cond.keeps, Cond.steady])) hini
  have hnU := X₁.named hnamed
  obtain ⟨methY, cY, hmY, hcY, -, hlY, -, -, -, -⟩ := Cond.code_spec hnU w2
  obtain ⟨kY, hkY, -⟩ := className_of_methodNamed hnU
  have hinitY : kY.init = .initialized := Cond.initialized_spec (findClass_of_methodNamed hnU) hkY w3
  have happ : (headSpec ws rm).appliesLoose y e.platform (U.calling (F0 m pc ls rest) mk av) = true :=
    Spec.appliesLoose_calling (g := F0 m pc ls rest) X₁.here (by rw [hb]; exact hdg) hnU hkY hinitY
      (X₁.room_calling (g := F0 m pc ls rest) (R' := rm) (hsize.trans hml.symm) hmY hcY hfr (by rw [hlY]; show 2 * 0 + (rest.map fun v => v.category).sum + _ + _ ≤ _; omega) (by rw [hrc]; exact hf.1) (by rw [hrs]; exact hf.2)) (atoms_intro fun w hw => hws w hw _ _ X₁.warmed)
  obtain ⟨mid, hmid⟩ := X₁.here.above
  have hfrm : (U.setTop (F0 m pc ls rest)).frames = (.java (F0 m pc ls rest) :: mid) ++ below := by rw [State.frames_setTop' _ X₁.here.top, hmid]; rfl
  obtain ⟨o, s₂, hsteps, -, hend, hq⟩ := Steps.callFree hM p X₁.admits X₁.cas X₁.clock (acts := []) hfrm happ (hbl _ _ _ _ (hPc U hUh X₁.warmed)) trivial
  rw [State.frames_setTop' _ X₁.here.top] at hend
  obtain ⟨g₀, hg0⟩ := Option.isSome_iff_exists.mp X₁.here.top
  obtain ⟨r, hr⟩ := State.topJava?_eq_some.mp hg0
  have hq' : (Qc av (U.calling (F0 m pc ls rest) mk av) o s₂ ∧ ∃ L, FrameEnd (U.calling (F0 m pc ls rest) mk av) o s₂ L 0 0 ∧ ∀ q ∈ L, free q.base) ∨ ∃ (z : Nat) (ce : Cell), o = .threw z ∧ TE (U.calling (F0 m pc ls rest) mk av) s₂ z ce := hq
  rcases hq' with ⟨hQ, L, hfe, hL⟩ | ⟨z, ce, rfl, hW₂, hsb, hce, hcs, hfc⟩
  · obtain ⟨⟨v, rfl⟩, hW₂, e2, q2', q3', q4', q5', q6'⟩ := id hfe
    have e3 : s₂ = ({ (U.calling (F0 m pc ls rest) mk av).setFrames s₂.frames with heap := s₂.heap, slotsUsed := s₂.slotsUsed } : State).setVm s₂.vm := by
      have h9 : s₂ = ({ s₂ with vm := (U.calling (F0 m pc ls rest) mk av).vm } : State).setVm s₂.vm := rfl
      rw [e2] at h9
      exact h9
    obtain ⟨c₂, i₂, len₂, hc₂, hd₂, hf₂⟩ := hend
    have hW' : U.WarmedH s₂.vm := hW₂
    have hcc : c₂ = c := by
      have h1 : s₂.code? m = U.code? m := by
        rw [State.code?_eq, State.code?_eq, hW'.alike.method?]
      exact Option.some.inj (hc₂.symm.trans (h1.trans X₁.here.code))
    subst hcc
    have hlen3 : len₂ = 3 := by
      have h9 : decode c₂.code pc = .ok (.invokevirtual index, 3) := by rw [hb]; exact hdg
      have hd₂' : decode c₂.code pc = .ok (i₂, len₂) := hd₂
      rw [h9] at hd₂'
      cases hd₂'
      rfl
    subst hlen3
    generalize hV : (({ U with heap := s₂.heap, slotsUsed := s₂.slotsUsed } : State).setVm s₂.vm) = V
    have hVh : V.heap = s₂.heap := by rw [← hV]; rfl
    have hs₂ : s₂ = V.setTop (F0 m (pc + 3) ls (v.toList ++ rest)) := by
      have hr' : V.frames = .java g₀ :: r := by rw [← hV]; exact hr
      refine e3.trans ?_
      rw [hf₂, State.calling_eq X₁.here.top, State.setFrames_setFrames, State.setTop_of_frames _ hr', hr, ← hV]
      rfl
    have hsame : U.sameButNew ({ U with heap := s₂.heap, slotsUsed := s₂.slotsUsed } : State) L 0 0 := by
      refine ⟨?_, q2', q3', q4', q5', q6'⟩
      obtain ⟨t, ht, -⟩ := State.frames_cons hr
      show ({ U with heap := s₂.heap, slotsUsed := s₂.slotsUsed } : State) = { U.setFrames U.frames with heap := s₂.heap, slotsUsed := s₂.slotsUsed }
      rw [State.setFrames_self ht]
    have XV : Stand p l e R s m args below meth c₂ V (locs ++ L) (cells + 0) (slots + 0) := by
      rw [← hV]
      exact ⟨X₁.admits, X₁.cas, X₁.clock, X₁.frames, X₁.room, X₁.hears, X₁.method, X₁.code, (X₁.here.setHeapUsed s₂.heap s₂.slotsUsed).setVm hW'.alike, X₁.tail, State.WarmedH.trans X₁.warmed hW', X₁.limits, X₁.bytes, X₁.same.trans (hsame.setVm s.vm)⟩
    obtain ⟨t, a1, b1⟩ := kr v _ s₂ L (show (U.calling (F0 m pc ls rest) mk av).heap = H from hUh) hQ hL V hVh XV
    refine ⟨t, hstep₁ t fun acts => ?_, b1⟩
    rw [doInvoke_state]
    refine hsteps.trans ?_
    rw [hs₂]
    exact a1
  · obtain ⟨e2, q2', q3', q4', q5', q6'⟩ := id hsb
    have e3 : s₂ = ({ (U.calling (F0 m pc ls rest) mk av).setFrames s₂.frames with heap := s₂.heap, slotsUsed := s₂.slotsUsed } : State).setVm s₂.vm := by
      have h9 : s₂ = ({ s₂ with vm := (U.calling (F0 m pc ls rest) mk av).vm } : State).setVm s₂.vm := rfl
      rw [e2] at h9
      exact h9
    have hf₂ : s₂.frames = .throwing z :: .java (F0 m pc ls rest) :: U.frames.tail := hend
    have hW' : U.WarmedH s₂.vm := hW₂
    generalize hV : (({ U with heap := s₂.heap, slotsUsed := s₂.slotsUsed } : State).setVm s₂.vm) = V
    have hVh : V.heap = s₂.heap := by rw [← hV]; rfl
    have hs₂ : s₂ = (V.setTop (F0 m pc ls rest)).pushFrame (.throwing z) := by
      have hr' : V.frames = .java g₀ :: r := by rw [← hV]; exact hr
      refine e3.trans ?_
      rw [hf₂, State.calling_eq X₁.here.top, State.setFrames_setFrames, State.pushFrame, State.frames_setTop _ hr', State.setTop_of_frames _ hr', State.setFrames_setFrames, hr, ← hV]
      rfl
    have hsame : U.sameButNew ({ U with heap := s₂.heap, slotsUsed := s₂.slotsUsed } : State) [] 1 6 := by
      refine ⟨?_, q2', q3', q4', q5', q6'⟩
      obtain ⟨t, ht, -⟩ := State.frames_cons hr
      show ({ U with heap := s₂.heap, slotsUsed := s₂.slotsUsed } : State) = { U.setFrames U.frames with heap := s₂.heap, slotsUsed := s₂.slotsUsed }
      rw [State.setFrames_self ht]
    have XV : Stand p l e R s m args below meth c V (locs ++ []) (cells + 1) (slots + 6) := by
      rw [← hV]
      exact ⟨X₁.admits, X₁.cas, X₁.clock, X₁.frames, X₁.room, X₁.hears, X₁.method, X₁.code, (X₁.here.setHeapUsed s₂.heap s₂.slotsUsed).setVm hW'.alike, X₁.tail, State.WarmedH.trans X₁.warmed hW', X₁.limits, X₁.bytes, X₁.same.trans (hsame.setVm s.vm)⟩
    rw [List.append_nil] at XV
    have hfc' : s.vm.findClass nX = some ce.cls := by rw [← X₁.warmed.alike.findClass]; exact hfc
    cases ct1.symm.trans hfc'
    obtain ⟨vm', XC, hcat⟩ := hm_caught XV (a := z) (g := F0 m pc ls rest) rfl ho htab hx h0 hlink (by rw [hVh]; exact hce) hcs hfc' ct3
    obtain ⟨t, a1, b1⟩ := kk z V.heap (by rw [hVh, ← hUh]; exact q2') (fun a ha9 => by rw [hVh, ← hUh]; exact sbn_at hsame (by rw [hUh]; exact ha9)) (V.setVm vm') rfl XC
    refine ⟨t, hstep₁ t fun acts => ?_, b1⟩
    rw [doInvoke_state]
    refine hsteps.trans ?_
    rw [hs₂]
    exact hcat t a1
end HMR
