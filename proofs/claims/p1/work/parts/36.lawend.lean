theorem d_La_cell_0 : decode b_La_cell 0 = .ok (.iload_n 1, 1) := by decide +kernel
theorem d_La_cell_1 : decode b_La_cell 1 = .ok (.aload_n 0, 1) := by decide +kernel
theorem d_La_cell_2 : decode b_La_cell 2 = .ok (.arraylength, 1) := by decide +kernel
theorem d_La_cell_3 : decode b_La_cell 3 = .ok (.if_icmp .ge 9, 3) := by decide +kernel
theorem d_La_cell_12 : decode b_La_cell 12 = .ok (.iconst 0, 1) := by decide +kernel
theorem d_La_cell_13 : decode b_La_cell 13 = .ok (.ireturn, 1) := by decide +kernel
theorem d_La_cell_6 : decode b_La_cell 6 = .ok (.aload_n 0, 1) := by decide +kernel
theorem d_La_cell_7 : decode b_La_cell 7 = .ok (.iload_n 1, 1) := by decide +kernel
theorem d_La_cell_8 : decode b_La_cell 8 = .ok (.iaload, 1) := by decide +kernel
theorem d_La_cell_9 : decode b_La_cell 9 = .ok (.goto 4, 3) := by decide +kernel
theorem d_La_law_1000 : decode b_La_law 1000 = .ok (.iinc 4 6, 3) := by decide +kernel
theorem d_La_law_1003 : decode b_La_law 1003 = .ok (.goto (-970), 3) := by decide +kernel
theorem d_La_law_33 : decode b_La_law 33 = .ok (.iload 4, 2) := by decide +kernel
theorem d_La_law_35 : decode b_La_law 35 = .ok (.aload_n 0, 1) := by decide +kernel
theorem d_La_law_36 : decode b_La_law 36 = .ok (.arraylength, 1) := by decide +kernel
theorem d_La_law_37 : decode b_La_law 37 = .ok (.bipush 6, 2) := by decide +kernel
theorem d_La_law_39 : decode b_La_law 39 = .ok (.isub, 1) := by decide +kernel
theorem d_La_law_40 : decode b_La_law 40 = .ok (.if_icmp .gt 966, 3) := by decide +kernel
theorem d_La_law_1006 : decode b_La_law 1006 = .ok (.iconst 1, 1) := by decide +kernel
theorem d_La_law_1007 : decode b_La_law 1007 = .ok (.ireturn, 1) := by decide +kernel
/-! THE CLAIM OUT OF ONE WALK OF THE LAW'S BODY. Your part is whole_start (and what it stands on); all else here is the same for every law, but numbers. -/
def R_law : String := "WriteOnceDiscLaw"
def lw_P (b : Addr) (xs : List Int32) (args : Array Value) (s : State) : Prop := args = #[.ref b] ∧ s.IntsAt b xs ∧ xs.length ≤ 7 ∧ (Jvm.Cond.and given_1 narrow_1).before args s = true
def lw_Q (_ : Array Value) (s : State) (o : Outcome) (t : State) : Prop := o = .returned (some (.int 1)) ∧ Framed s o t [] 600002 7302198
def lw_Z (below : List Frame) (a : Array Value) (s : State) : State → Prop := fun t => ∃ o, t.status = .running ∧ Ended t below o ∧ lw_Q a s o t
/-- the law's own end, with 1 on the stack, nothing written that was there before, its room as the claim has it -/
theorem lw_ret {p : Program} {l : Launch} {e : Env} {s : State} {m : MethodId} {below : List Frame} {meth : Method} {c : Code} {b : Nat} (hx : p.tables.exec = Jvm.exec) (hb : c.code = code) (hr : meth.sig.returnType = ret) (hlocks : meth.locks = false) {pc : Nat} {H : Heap} {ls : Array Slot} (hdg : decode code pc = .ok (.ireturn, 1)) : W p l e room_1 s m #[Value.ref b] below meth c H [] 600002 7302198 (lw_Z below #[Value.ref b] s) (F0 m pc ls [.int 1]) := by
  intro T hT X
  obtain ⟨fs, hret, hrun, hended, hW, hframe⟩ := X.leave (v := some (.int 1)) (hlocks := hlocks) (fun h => by rw [hr] at h; cases h)
  have hmeth' : T.vm.method? m = some meth := X.method'
  refine ⟨T.setFrames fs, ?_, .returned (some (.int 1)), hrun, hended, rfl, ⟨_, rfl⟩, hW, hframe⟩
  jvm_step X.here [X.here.top, hx, hb, hdg, hmeth', hr, ret, narrow_b1]
  (try refine ⟨rfl, ?_⟩); (try refine ⟨rfl, ?_⟩)
  first | (intro acts; rw [hret _ acts rfl rfl rfl]) | rw [hret _ _ rfl rfl rfl]
  exact Steps.refl _
/-- what holds at the law's entry: the machine, the code, the tables' words (any of lw_tbl by 'hts w (by decide +kernel)'), the script of L ints xs at the cell b, what the Statement gives of the start (any of its parts by flat_of_before) -/
def lw_At (p : Program) (s : State) (m : MethodId) (meth : Method) (c : Code) (b L : Nat) (xs : Nat → Int32) : Prop :=
  p.tables.exec = Jvm.exec ∧ c.code = code ∧ meth.sig.returnType = ret ∧ c.maxLocals = 8 ∧ s.vm.findClass R_law = some m.cls ∧ (∀ w ∈ lw_tbl, w.before #[Value.ref b] s = true) ∧ va_X b L xs s s.heap ∧ b < s.heap.size ∧ meth.locks = false ∧ (Jvm.Cond.and given_1 narrow_1).before #[Value.ref b] s = true

set_option maxHeartbeats 4000000 in
set_option maxRecDepth 100000 in
theorem c_l_cell (l : Launch) (D : va_G) (t : Nat → ClassId) (G : hG) (ak av : Nat → Nat) (h : hM) (b L : Nat) (xs : Nat → Int32) (hL7 : L ≤ 7) : Met l y_La_cell (.code y_La_cell b_La_cell 2 (some .int) :: lw_g) { frames := 0, cells := 0, slots := 0, locals := 0 } (hP (kX D t G ak av b L xs) D vwCl G h [.ref b, .int 0]) (hQi D vwCl G (fun r h' => r = cel L xs ∧ h = h')) 0 0 G.P := by
  refine Met.ofW (cc := b_La_cell) (maxL := 2) (ret := (some .int)) (by decide) rfl ?_
  intro p e s m args below meth c s₁ Bd hml hv
  obtain ⟨ha, ⟨hE, hE1⟩, hH⟩ := hv
  have hx := Bd.exec
  have hb := Bd.bytes
  have hr := Bd.returns
  have hts : ∀ w ∈ lw_g, w.before args s = true := fun w hw => atoms_spec (ws := (.code y_La_cell b_La_cell 2 (some .int) :: lw_g)) Bd.pre w (List.mem_cons_of_mem _ hw)
  have hown : s.vm.findClass R_La = some m.cls := findClass_of_methodNamed Bd.named
  have hlocks := Bd.notSynchronized
  have hK := hE.1
  have hH0 := hH
  have hLo : hLc G.P [] := hLc_nil
  have hz : s.heap.size ≤ s.heap.size := Nat.le_refl _
  have hkp : kp [] h h := kp_rf
  have hl := lv_entry [.ref b, .int 0] (n := 2) (Nat.le_of_ble_eq_true rfl)
  rw [show entryFrame m args 2 = F0 m 0 ((lg_sl [.ref b, .int 0] ++ List.replicate (2 - (lg_sl [.ref b, .int 0]).length) Slot.unset).toArray) [] from (by rw [ha]; exact lg_entry_eq m [.ref b, .int 0] 2)]
  generalize (lg_sl [.ref b, .int 0] ++ List.replicate (2 - (lg_sl [.ref b, .int 0]).length) Slot.unset).toArray = ls at hl ⊢
  have hl : lv_has ls 2 [(0, .ref b), (1, .int 0)] := hl
  obtain ⟨hXs, hbl, hbA⟩ := hE1
  have hS9 : va_S G.P G.H s.heap [] := ⟨hH.1.1, fun q _ hn => hH.1.2 q hn, hLo⟩
  refine lv_iload_n hx hb d_La_cell_0 rfl (lv_at hl 1 rfl) ?_
  refine lv_aload_n hx hb d_La_cell_1 rfl (lv_at hl 0 rfl) ?_
  refine va_slen hx hb hXs hbl hbA hS9 d_La_cell_2 ?_
  refine lv_icmp_ge (tgt := 12) hx hb d_La_cell_3 (by decide) (fun hc1 => ?_) (fun hc1 => ?_)
  · skip
    refine lv_iconst (v := 0) hx hb d_La_cell_12 (by decide) ?_
    exact W.iret (v := 0) hx hb hr (fun t9 ht hW => ⟨0, h, rfl, ⟨(if_neg (fun z => nI_nle z (by omega) hc1)).symm, rfl⟩, by rw [ht]; exact hH, by rw [ht]; exact hz⟩) hLo d_La_cell_13
  · skip
    have hLp : 0 < L := Nat.pos_of_ne_zero (fun z => hc1 (by rw [z]; decide))
    refine lv_aload_n hx hb d_La_cell_6 rfl (lv_at hl 0 rfl) ?_
    refine lv_iload_n hx hb d_La_cell_7 rfl (lv_at hl 1 rfl) ?_
    refine va_sld hx hb hXs hbl hbA hS9 (fun z => z.elim (fun z => absurd z (show ¬ (0 : Int32) < 0 by decide)) (fun z => absurd (show L ≤ 0 from z) (by omega))) d_La_cell_8 ?_
    refine lv_topi (fun v2 e3 => ?_)
    obtain rfl : v2 = xs 0 := e3.trans (rfl)
    refine lv_goto (tgt := 13) hx hb d_La_cell_9 (by decide) ?_
    exact W.iret (v := xs 0) hx hb hr (fun t9 ht hW => ⟨xs 0, h, rfl, ⟨(if_pos hLp).symm, rfl⟩, by rw [ht]; exact hH, by rw [ht]; exact hz⟩) hLo d_La_cell_13

set_option maxHeartbeats 4000000 in
set_option maxRecDepth 100000 in
theorem law_end {p : Program} {e : Env} {s : State} {m : MethodId} {below : List Frame} {meth : Method} {c : Code} (l : Launch) (hfl : l.flags = flags0) {b : Nat} {xs : Nat → Int32} (hx : p.tables.exec = Jvm.exec) (hb : c.code = b_La_law) (hr : meth.sig.returnType = ret) (hml : c.maxLocals = 8) (hown : s.vm.findClass R_La = some m.cls) (hts : ∀ w ∈ lw_g, w.before #[Value.ref b] s = true) (hlocks : meth.locks = false) {H : Heap} {locs : List Loc} {ls : Array Slot} {cs ss : Nat} (hXs : va_X b 7 xs s s.heap) (hbl : b < s.heap.size) (hS : va_S (P0 s) s.heap H locs) (hcs : cs ≤ 600002) (hss : ss ≤ 7302198) (hl : lv_has ls 8 [(4, .int 1), (0, .ref b)]) : W p l e room_1 s m #[Value.ref b] below meth c H locs cs ss (lw_Z below #[Value.ref b] s) (F0 m 1000 ls []) := by
  have hbA : ¬ P0 s b := Nat.not_le.mpr hbl
  refine lv_iinc (v := 1 + 6) (lv' := [(4, .int (1 + 6)), (0, .ref b)]) hx hb d_La_law_1000 hl (k := 0) rfl (by rfl) (by decide) rfl (fun ls hl => ?_)
  refine lv_goto (tgt := 33) hx hb d_La_law_1003 (by decide) ?_
  refine lv_iload hx hb d_La_law_33 (lv_at hl 0 rfl) ?_
  refine lv_aload_n hx hb d_La_law_35 rfl (lv_at hl 1 rfl) ?_
  refine va_slen hx hb hXs hbl hbA hS d_La_law_36 ?_
  refine lv_bipush (v := 6) hx hb d_La_law_37 (by decide) ?_
  refine lv_isub hx hb d_La_law_39 ?_
  refine lv_icmp_gt (tgt := 1006) hx hb d_La_law_40 (by decide) (fun hc21 => ?_) (fun hc21 => absurd (by decide) hc21)
  refine lv_iconst (v := 1) hx hb d_La_law_1006 (by decide) ?_
  refine va_forget (fun q hq => hS.2.2 q hq) ?_
  refine W.widen hcs hss ?_
  exact lw_ret hx hb hr hlocks d_La_law_1007
