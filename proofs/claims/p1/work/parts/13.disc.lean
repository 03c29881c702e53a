set_option maxRecDepth 100000 in
theorem mw_241 : Cond.methodLink R_Di 1 objectInit ∈ lw_g := lw_gin (List.mem_append_right _ (List.mem_of_getElem? (i := 27) rfl)) (by decide +kernel)
set_option maxRecDepth 100000 in
theorem mw_242 : Cond.classLink R_Di 7 R_Wr ∈ lw_g := lw_gin (List.mem_append_right _ (List.mem_of_getElem? (i := 30) rfl)) (by decide +kernel)
set_option maxRecDepth 100000 in
theorem mw_243 : Cond.instantiable R_Wr 2 ∈ lw_g := lw_gin (List.mem_append_right _ (List.mem_of_getElem? (i := 31) rfl)) (by decide +kernel)
set_option maxRecDepth 100000 in
theorem mw_244 : Cond.code y_Wr_init b_Wr_init 1 none ∈ lw_g := lw_gin (List.mem_append_right _ (List.mem_of_getElem? (i := 34) rfl)) (by decide +kernel)
set_option maxRecDepth 100000 in
theorem mw_245 : Cond.instanceMethod y_Wr_init ∈ lw_g := lw_gin (List.mem_append_right _ (List.mem_of_getElem? (i := 33) rfl)) (by decide +kernel)
set_option maxRecDepth 100000 in
theorem mw_246 : Cond.fieldLink R_Di 10 "WriteOnceDisc" "writer" "LWriteOnceDisc$Writer;" ∈ lw_g := lw_gin (List.mem_append_right _ (List.mem_of_getElem? (i := 236) rfl)) (by decide +kernel)
set_option maxRecDepth 100000 in
theorem mw_247 : Cond.classLink R_Di 16 R_Re ∈ lw_g := lw_gin (List.mem_append_right _ (List.mem_of_getElem? (i := 76) rfl)) (by decide +kernel)
set_option maxRecDepth 100000 in
theorem mw_248 : Cond.instantiable R_Re 5 ∈ lw_g := lw_gin (List.mem_append_right _ (List.mem_of_getElem? (i := 77) rfl)) (by decide +kernel)
set_option maxRecDepth 100000 in
theorem mw_249 : Cond.initialized R_Re ∈ lw_g := lw_gin (List.mem_append_right _ (List.mem_of_getElem? (i := 5) rfl)) (by decide +kernel)
set_option maxRecDepth 100000 in
theorem mw_250 : Cond.code y_Re_init b_Re_init 1 none ∈ lw_g := lw_gin (List.mem_append_right _ (List.mem_of_getElem? (i := 80) rfl)) (by decide +kernel)
set_option maxRecDepth 100000 in
theorem mw_251 : Cond.instanceMethod y_Re_init ∈ lw_g := lw_gin (List.mem_append_right _ (List.mem_of_getElem? (i := 79) rfl)) (by decide +kernel)
set_option maxRecDepth 100000 in
theorem mw_252 : Cond.fieldLink R_Di 19 "WriteOnceDisc" "reader" "LWriteOnceDisc$Reader;" ∈ lw_g := lw_gin (List.mem_append_right _ (List.mem_of_getElem? (i := 237) rfl)) (by decide +kernel)
set_option maxRecDepth 100000 in
theorem mw_253 : Cond.classLink R_Di 23 R_Ns ∈ lw_g := lw_gin (List.mem_append_right _ (List.mem_of_getElem? (i := 170) rfl)) (by decide +kernel)
set_option maxRecDepth 100000 in
theorem mw_254 : Cond.instantiable R_Ns 4 ∈ lw_g := lw_gin (List.mem_append_right _ (List.mem_of_getElem? (i := 171) rfl)) (by decide +kernel)
set_option maxRecDepth 100000 in
theorem mw_255 : Cond.code y_Ns_init b_Ns_init 2 none ∈ lw_g := lw_gin (List.mem_append_right _ (List.mem_of_getElem? (i := 174) rfl)) (by decide +kernel)
set_option maxRecDepth 100000 in
theorem mw_256 : Cond.methodLink R_Di 25 y_Ns_init ∈ lw_g := lw_gin (List.mem_append_right _ (List.mem_of_getElem? (i := 172) rfl)) (by decide +kernel)
set_option maxRecDepth 100000 in
theorem mw_257 : Cond.instanceMethod y_Ns_init ∈ lw_g := lw_gin (List.mem_append_right _ (List.mem_of_getElem? (i := 173) rfl)) (by decide +kernel)
set_option maxRecDepth 100000 in
theorem mw_258 : Cond.fieldLink R_Di 26 "WriteOnceDisc" "planned" "LWriteOnceDisc$Nodes;" ∈ lw_g := lw_gin (List.mem_append_right _ (List.mem_of_getElem? (i := 238) rfl)) (by decide +kernel)
set_option maxRecDepth 100000 in
theorem mw_259 : Cond.fieldLink R_Di 30 "WriteOnceDisc" "spare" "LWriteOnceDisc$Medium;" ∈ lw_g := lw_gin (List.mem_append_right _ (List.mem_of_getElem? (i := 240) rfl)) (by decide +kernel)
set_option maxRecDepth 100000 in
theorem mw_260 : Cond.fieldLink R_Di 34 "WriteOnceDisc" "lastNumber" "I" ∈ lw_g := lw_gin (List.mem_append_right _ (List.mem_of_getElem? (i := 241) rfl)) (by decide +kernel)
set_option maxRecDepth 100000 in
theorem mw_261 : Cond.fieldLink R_Di 38 "WriteOnceDisc" "isOpen" "Z" ∈ lw_g := lw_gin (List.mem_append_right _ (List.mem_of_getElem? (i := 242) rfl)) (by decide +kernel)
set_option maxRecDepth 100000 in
theorem mw_262 : Cond.fieldLink R_Di 42 "WriteOnceDisc" "opened" "LWriteOnceDisc$Nodes;" ∈ lw_g := lw_gin (List.mem_append_right _ (List.mem_of_getElem? (i := 243) rfl)) (by decide +kernel)
set_option maxRecDepth 100000 in
theorem mw_263 : Cond.fieldLink R_Di 45 "WriteOnceDisc" "scratch" "LWriteOnceDisc$Nodes;" ∈ lw_g := lw_gin (List.mem_append_right _ (List.mem_of_getElem? (i := 244) rfl)) (by decide +kernel)
set_option maxRecDepth 100000 in
theorem mw_264 : Cond.classLink R_Di 48 R_Me ∈ lw_g := lw_gin (List.mem_append_right _ (List.mem_of_getElem? (i := 197) rfl)) (by decide +kernel)
set_option maxRecDepth 100000 in
theorem mw_265 : Cond.instantiable R_Me 2 ∈ lw_g := lw_gin (List.mem_append_right _ (List.mem_of_getElem? (i := 198) rfl)) (by decide +kernel)
set_option maxRecDepth 100000 in
theorem mw_266 : Cond.code y_Me_init b_Me_init 3 none ∈ lw_g := lw_gin (List.mem_append_right _ (List.mem_of_getElem? (i := 201) rfl)) (by decide +kernel)
set_option maxRecDepth 100000 in
theorem mw_267 : Cond.methodLink R_Di 50 y_Me_init ∈ lw_g := lw_gin (List.mem_append_right _ (List.mem_of_getElem? (i := 199) rfl)) (by decide +kernel)
set_option maxRecDepth 100000 in
theorem mw_268 : Cond.instanceMethod y_Me_init ∈ lw_g := lw_gin (List.mem_append_right _ (List.mem_of_getElem? (i := 200) rfl)) (by decide +kernel)
set_option maxRecDepth 100000 in
theorem mw_269 : Cond.fieldLink R_Di 53 "WriteOnceDisc" "medium" "LWriteOnceDisc$Medium;" ∈ lw_g := lw_gin (List.mem_append_right _ (List.mem_of_getElem? (i := 239) rfl)) (by decide +kernel)
theorem d_Di_init_0 : decode b_Di_init 0 = .ok (.aload_n 0, 1) := by decide +kernel
theorem d_Di_init_1 : decode b_Di_init 1 = .ok (.invokespecial 1, 3) := by decide +kernel
theorem d_Di_init_4 : decode b_Di_init 4 = .ok (.aload_n 0, 1) := by decide +kernel
theorem d_Di_init_5 : decode b_Di_init 5 = .ok (.new 7, 3) := by decide +kernel
theorem d_Di_init_8 : decode b_Di_init 8 = .ok (.dup, 1) := by decide +kernel
theorem d_Di_init_9 : decode b_Di_init 9 = .ok (.invokespecial 9, 3) := by decide +kernel
theorem d_Di_init_12 : decode b_Di_init 12 = .ok (.putfield 10, 3) := by decide +kernel
theorem d_Di_init_15 : decode b_Di_init 15 = .ok (.aload_n 0, 1) := by decide +kernel
theorem d_Di_init_16 : decode b_Di_init 16 = .ok (.new 16, 3) := by decide +kernel
theorem d_Di_init_19 : decode b_Di_init 19 = .ok (.dup, 1) := by decide +kernel
theorem d_Di_init_20 : decode b_Di_init 20 = .ok (.invokespecial 18, 3) := by decide +kernel
theorem d_Di_init_23 : decode b_Di_init 23 = .ok (.putfield 19, 3) := by decide +kernel
theorem d_Di_init_26 : decode b_Di_init 26 = .ok (.aload_n 0, 1) := by decide +kernel
theorem d_Di_init_27 : decode b_Di_init 27 = .ok (.new 23, 3) := by decide +kernel
theorem d_Di_init_30 : decode b_Di_init 30 = .ok (.dup, 1) := by decide +kernel
theorem d_Di_init_31 : decode b_Di_init 31 = .ok (.invokespecial 25, 3) := by decide +kernel
theorem d_Di_init_34 : decode b_Di_init 34 = .ok (.putfield 26, 3) := by decide +kernel
theorem d_Di_init_37 : decode b_Di_init 37 = .ok (.aload_n 0, 1) := by decide +kernel
theorem d_Di_init_38 : decode b_Di_init 38 = .ok (.aconst_null, 1) := by decide +kernel
theorem d_Di_init_39 : decode b_Di_init 39 = .ok (.putfield 30, 3) := by decide +kernel
theorem d_Di_init_42 : decode b_Di_init 42 = .ok (.aload_n 0, 1) := by decide +kernel
theorem d_Di_init_43 : decode b_Di_init 43 = .ok (.iconst 0, 1) := by decide +kernel
theorem d_Di_init_44 : decode b_Di_init 44 = .ok (.putfield 34, 3) := by decide +kernel
theorem d_Di_init_47 : decode b_Di_init 47 = .ok (.aload_n 0, 1) := by decide +kernel
theorem d_Di_init_48 : decode b_Di_init 48 = .ok (.iconst 0, 1) := by decide +kernel
theorem d_Di_init_49 : decode b_Di_init 49 = .ok (.putfield 38, 3) := by decide +kernel
theorem d_Di_init_52 : decode b_Di_init 52 = .ok (.aload_n 0, 1) := by decide +kernel
theorem d_Di_init_53 : decode b_Di_init 53 = .ok (.new 23, 3) := by decide +kernel
theorem d_Di_init_56 : decode b_Di_init 56 = .ok (.dup, 1) := by decide +kernel
theorem d_Di_init_57 : decode b_Di_init 57 = .ok (.invokespecial 25, 3) := by decide +kernel
theorem d_Di_init_60 : decode b_Di_init 60 = .ok (.putfield 42, 3) := by decide +kernel
theorem d_Di_init_63 : decode b_Di_init 63 = .ok (.aload_n 0, 1) := by decide +kernel
theorem d_Di_init_64 : decode b_Di_init 64 = .ok (.new 23, 3) := by decide +kernel
theorem d_Di_init_67 : decode b_Di_init 67 = .ok (.dup, 1) := by decide +kernel
theorem d_Di_init_68 : decode b_Di_init 68 = .ok (.invokespecial 25, 3) := by decide +kernel
theorem d_Di_init_71 : decode b_Di_init 71 = .ok (.putfield 45, 3) := by decide +kernel
theorem d_Di_init_74 : decode b_Di_init 74 = .ok (.aload_n 0, 1) := by decide +kernel
theorem d_Di_init_75 : decode b_Di_init 75 = .ok (.new 48, 3) := by decide +kernel
theorem d_Di_init_78 : decode b_Di_init 78 = .ok (.dup, 1) := by decide +kernel
theorem d_Di_init_79 : decode b_Di_init 79 = .ok (.iload_n 1, 1) := by decide +kernel
theorem d_Di_init_80 : decode b_Di_init 80 = .ok (.bipush 40, 2) := by decide +kernel
theorem d_Di_init_82 : decode b_Di_init 82 = .ok (.if_icmp .lt 14, 3) := by decide +kernel
theorem d_Di_init_96 : decode b_Di_init 96 = .ok (.bipush 100, 2) := by decide +kernel
theorem d_Di_init_98 : decode b_Di_init 98 = .ok (.invokespecial 50, 3) := by decide +kernel
theorem d_Di_init_101 : decode b_Di_init 101 = .ok (.putfield 53, 3) := by decide +kernel
theorem d_Di_init_104 : decode b_Di_init 104 = .ok (.return_, 1) := by decide +kernel
theorem d_Di_init_85 : decode b_Di_init 85 = .ok (.iload_n 1, 1) := by decide +kernel
theorem d_Di_init_86 : decode b_Di_init 86 = .ok (.sipush 200, 3) := by decide +kernel
theorem d_Di_init_89 : decode b_Di_init 89 = .ok (.if_icmp .gt 7, 3) := by decide +kernel
theorem d_Di_init_92 : decode b_Di_init 92 = .ok (.iload_n 1, 1) := by decide +kernel
theorem d_Di_init_93 : decode b_Di_init 93 = .ok (.goto 5, 3) := by decide +kernel
/-- a fresh object of the class, of n sectors -/
def FrX (t : Nat → ClassId) (h : hM) (x n : Nat) : Prop := ∃ (wr rd ns op sr md su pg pb sl od sa : Nat) (fs g fa : Nat → Option Nat), h x = some (.inr (8, [.ref wr, .ref rd, .ref ns, .ref md, .null, .int 0, .int 0, .ref op, .ref sr])) ∧ h wr = some (.inr (7, [.ref su, .ref pg])) ∧ h su = some (.inr (4, [.int (-1), .int 0, .int 0])) ∧ h pg = some (.inr (3, [.ref pb])) ∧ h pb = some (.inl ((t 0), 2048, .inl (fun _ => 0))) ∧ h ns = some (.inr (2, [.ref sl, .ref od, .int 1, .int 1])) ∧ h sl = some (.inl ((t 4), 30, .inr (.inr (.inr (.inr fs))))) ∧ h od = some (.inl ((t 4), 30, .inr (.inr (.inr (.inr g))))) ∧ (∀ j, j < 30 → g j = fs j) ∧ rowP (.inr (1, [.int 0, .null, .int 1, .long 0, .int 0, .int 0, .int 0, .int 0, .int 0, .int 0, .int 1])) fs 0 30 h ∧ h md = some (.inr (0, [.ref sa, .int (nI 0)])) ∧ h sa = some (.inl ((t 5), n, .inr (.inr (.inr (.inr fa))))) ∧ rowP (.inr (6, [.int 0, .int 0, .null])) fa 0 n h ∧ sl ≠ od ∧ 40 ≤ n ∧ n ≤ 200
theorem FrX_kp {t : Nat → ClassId} {h h' : hM} {x n m : Nat} {vs : List Value} (hX : FrX t h x n) (hk : kp [m] h h') (hm : h m = some (.inr (9, vs))) : FrX t h' x n := by
  obtain ⟨wr, rd, ns, op, sr, md, su, pg, pb, sl, od, sa, fs, g, fa, f_x, f_wr, f_su, f_pg, f_pb, f_ns, f_sl, f_od, hgf, hnd, f_md, f_sa, hrow, ne_sl_od, hn40, hn⟩ := hX
  exact ⟨wr, rd, ns, op, sr, md, su, pg, pb, sl, od, sa, fs, g, fa, kp_at hk f_x (nmc (h_neC f_x hm (by decide)) nm0), kp_at hk f_wr (nmc (h_neC f_wr hm (by decide)) nm0), kp_at hk f_su (nmc (h_neC f_su hm (by decide)) nm0), kp_at hk f_pg (nmc (h_neC f_pg hm (by decide)) nm0), kp_at hk f_pb (nmc (h_neA f_pb hm) nm0), kp_at hk f_ns (nmc (h_neC f_ns hm (by decide)) nm0), kp_at hk f_sl (nmc (h_neA f_sl hm) nm0), kp_at hk f_od (nmc (h_neA f_od hm) nm0), hgf, rowP_kp hnd hk (List.forall_mem_cons.mpr ⟨by rw [hm]; simp, List.forall_mem_nil _⟩), kp_at hk f_md (nmc (h_neC f_md hm (by decide)) nm0), kp_at hk f_sa (nmc (h_neA f_sa hm) nm0), rowP_kp hrow hk (List.forall_mem_cons.mpr ⟨by rw [hm]; simp, List.forall_mem_nil _⟩), ne_sl_od, hn40, hn⟩
/-- the number of sectors that a number asks for -/
def nsz (v : Int32) : Nat := if 40 ≤ v ∧ v ≤ 200 then v.toNatClampNeg else 100
theorem nsz_lo {v : Int32} (h : v < 40) : nsz v = 100 := if_neg (fun q => absurd q.1 (Int32.not_le.mpr h))
theorem nsz_hi {v : Int32} (h : 200 < v) : nsz v = 100 := if_neg (fun q => absurd q.2 (Int32.not_le.mpr h))
theorem nsz_in {v : Int32} (h : ¬ v < 40) (h2 : ¬ 200 < v) : 40 ≤ nsz v ∧ nsz v ≤ 200 ∧ v = nI (nsz v) := by
  have a := Int32.not_lt.mp h
  have b := Int32.not_lt.mp h2
  have e : nsz v = v.toNatClampNeg := if_pos ⟨a, b⟩
  rw [Int32.le_iff_toInt_le] at a b
  have a' : (40 : Int) ≤ v.toInt := a
  have b' : v.toInt ≤ 200 := b
  obtain ⟨j, hj, rfl⟩ := nI_of (x := v) (by rw [Int32.lt_iff_toInt_lt, Int32.toInt_zero]; omega)
  rw [nI_toInt hj] at a' b'
  rw [e, nI_clamp hj]
  exact ⟨by omega, by omega, rfl⟩

set_option maxHeartbeats 4000000 in
set_option maxRecDepth 100000 in
theorem c_Di_init (l : Launch) (D : va_G) (t : Nat → ClassId) (G : hG) (ak av : Nat → Nat) (h : hM) (x : Nat) (v : Int32) (f_x : h x = some (.inr (8, [.null, .null, .null, .null, .null, .int 0, .int 0, .null, .null]))) : Met l y_Di_init (.code y_Di_init b_Di_init 2 none :: lw_g) { frames := 3, cells := 309, slots := 4535, locals := 54 } (hP (kE D t G ak av) D vwCl G h [.ref x, .int v]) (hQv D vwCl G (fun h' => kp [x] h h' ∧ FrX t h' x (nsz v))) 309 4535 G.P := by
  refine Met.ofW (cc := b_Di_init) (maxL := 2) (ret := none) (by decide) rfl ?_
  intro p e s m args below meth c s₁ Bd hml hv
  obtain ⟨ha, hE, hH⟩ := hv
  have hx := Bd.exec
  have hb := Bd.bytes
  have hr := Bd.returns
  have hts : ∀ w ∈ lw_g, w.before args s = true := fun w hw => atoms_spec (ws := (.code y_Di_init b_Di_init 2 none :: lw_g)) Bd.pre w (List.mem_cons_of_mem _ hw)
  have hown : s.vm.findClass R_Di = some m.cls := findClass_of_methodNamed Bd.named
  have hlocks := Bd.notSynchronized
  have hin : meth.name = "<init>" := (name_of_methodNamed Bd.named Bd.method).1
  have hK := hE.1
  have hH0 := hH
  have hLo : hLc G.P [] := hLc_nil
  have hz : s.heap.size ≤ s.heap.size := Nat.le_refl _
  have hkp : kp [x] h h := kp_rf
  have hl := lv_entry [.ref x, .int v] (n := 2) (Nat.le_of_ble_eq_true rfl)
  rw [show entryFrame m args 2 = F0 m 0 ((lg_sl [.ref x, .int v] ++ List.replicate (2 - (lg_sl [.ref x, .int v]).length) Slot.unset).toArray) [] from (by rw [ha]; exact lg_entry_eq m [.ref x, .int v] 2)]
  generalize (lg_sl [.ref x, .int v] ++ List.replicate (2 - (lg_sl [.ref x, .int v]).length) Slot.unset).toArray = ls at hl ⊢
  have hl : lv_has ls 2 [(0, .ref x), (1, .int v)] := hl
  refine lv_aload_n hx hb d_Di_init_0 rfl (lv_at hl 0 rfl) ?_
  refine W.objInit hx hb hown (hts _ mw_241) (hts _ mw_1) (hts _ mw_2) rfl (by rw [hml]; exact hl.1) rfl d_Di_init_1 (Nat.le_of_ble_eq_true rfl) (Nat.le_of_ble_eq_true rfl) ?_
  refine W.eq (g2 := F0 m 4 ls []) rfl ?_
  refine lv_aload_n hx hb d_Di_init_4 rfl (lv_at hl 0 rfl) ?_
  refine hm_new (ci := 7) (fs := [.null, .null]) (C := R_Wr) (T := F_Wr) (N := 2) hx hb hts ig_Wr t_Wr tk_Wr hown (hts _ mw_242) (hts _ mw_243) (hts _ mw_221) hK hH rfl df_Wr (Nat.le_of_ble_eq_true rfl) (Nat.le_of_ble_eq_true rfl) d_Di_init_5 (fun q2 H1 hq3 hn4 hH z5 => ?_)
  have hz : s.heap.size ≤ H1.size := by rw [z5]; exact Nat.le_succ_of_le hz
  obtain ⟨h6, e7⟩ : ∃ z, z = hu h q2 (.inr (7, [.null, .null])) := ⟨_, rfl⟩
  have hH : hm D vwCl G h6 H1 := by rw [e7]; exact hH
  have nb_h_q2 : h q2 = none := kp_none hkp hn4 (nmc (Ne.symm (h_nf hn4 f_x)) nm0)
  have hkp : kp [x] h h6 := by rw [e7]; exact kp_new hkp hn4
  have ne_x_q2 : x ≠ q2 := h_nf hn4 f_x
  have f_x : h6 x = some (.inr (8, [.null, .null, .null, .null, .null, .int 0, .int 0, .null, .null])) := by rw [e7, hu_n ne_x_q2]; exact f_x
  have f_wr : h6 q2 = some (.inr (7, [.null, .null])) := by rw [e7]; exact hu_s _ _ _
  refine lv_dup hx hb d_Di_init_8 rfl ?_
  refine hm_callv (va_runIN (As := []) (b := q2) (rest := [.ref q2, .ref x]) ⟨hx, hb, hml, hown, hts⟩ (c_Writer_init l D t G ak av h6 q2 f_wr) ⟨cw9N 0 hts mw_244 (nmU hE nM_0) mw_221 rfl rfl (by decide +kernel) ⟨Nat.le_of_ble_eq_true rfl, Nat.le_of_ble_eq_true rfl⟩, rfl, hts _ mw_245⟩ (hP_S kE_ok hE hH) rfl rfl hl.1 rfl (lv_room (Nat.le_of_ble_eq_true rfl)) d_Di_init_9 ⟨Nat.le_of_ble_eq_true rfl, Nat.le_of_ble_eq_true rfl⟩) hLo (fun h8 H9 locs hp11 hH z10 hLo => ?_)
  have hz : s.heap.size ≤ H9.size := Nat.le_trans hz z10
  obtain ⟨hk9, su, pg, pb, hq9, hs9, hg9, hb9⟩ := hp11
  have f_x : h8 x = some (.inr (8, [.null, .null, .null, .null, .null, .int 0, .int 0, .null, .null])) := kp_at hk9 f_x (nmc ne_x_q2 nm0)
  have hkp : kp [x] h h8 := kp_tr2 hkp hk9 (List.forall_mem_cons.mpr ⟨Or.inr nb_h_q2, List.forall_mem_nil _⟩)
  have f_wr : h8 q2 = some (.inr (7, [.ref su, .ref pg])) := hq9
  have f_su : h8 su = some (.inr (4, [.int (-1), .int 0, .int 0])) := hs9
  have f_pg : h8 pg = some (.inr (3, [.ref pb])) := hg9
  have f_pb : h8 pb = some (.inl ((t 0), 2048, .inl (fun _ => 0))) := hb9
  refine hm_putF (ci := 8) (v := .ref q2) (ty := (.object "WriteOnceDisc$Writer")) (C := R_Di) (T := F_Di) (N := 9) hx hb hts ig_Di t_Di tk_Di nm_Di hown hK hH hLo f_x rfl 0 (by decide) (hts _ mw_246) (fun _ h9 => h9) rfl hin rfl (by decide +kernel) rfl rfl (Nat.le_of_ble_eq_true rfl) d_Di_init_12 (fun H12 locs hH z13 hLo => ?_)
  have hz : s.heap.size ≤ H12.size := by rw [z13]; exact hz
  obtain ⟨h14, e15⟩ : ∃ z, z = hu h8 x (.inr (8, [.ref q2, .null, .null, .null, .null, .int 0, .int 0, .null, .null])) := ⟨_, rfl⟩
  have hH : hm D vwCl G h14 H12 := by rw [e15]; exact hH
  have f_wr : h14 q2 = some (.inr (7, [.ref su, .ref pg])) := by rw [e15, hu_n (Ne.symm ne_x_q2)]; exact f_wr
  have f_su : h14 su = some (.inr (4, [.int (-1), .int 0, .int 0])) := by rw [e15, hu_n (h_neC f_su f_x (by decide))]; exact f_su
  have f_pg : h14 pg = some (.inr (3, [.ref pb])) := by rw [e15, hu_n (h_neC f_pg f_x (by decide))]; exact f_pg
  have f_pb : h14 pb = some (.inl ((t 0), 2048, .inl (fun _ => 0))) := by rw [e15, hu_n (h_neA f_pb f_x)]; exact f_pb
  have f_x : h14 x = some (.inr (8, [.ref q2, .null, .null, .null, .null, .int 0, .int 0, .null, .null])) := by rw [e15]; exact hu_s _ _ _
  have hkp : kp [x] h h14 := by rw [e15]; exact kp_put hkp (by simp)
  refine lv_aload_n hx hb d_Di_init_15 rfl (lv_at hl 0 rfl) ?_
  refine hm_new (ci := 5) (fs := [.null, .null, .null, .null, .int 0]) (C := R_Re) (T := F_Re) (N := 5) hx hb hts ig_Re t_Re tk_Re hown (hts _ mw_247) (hts _ mw_248) (hts _ mw_249) hK hH rfl df_Re (Nat.le_of_ble_eq_true rfl) (Nat.le_of_ble_eq_true rfl) d_Di_init_16 (fun q17 H16 hq18 hn19 hH z20 => ?_)
  have hz : s.heap.size ≤ H16.size := by rw [z20]; exact Nat.le_succ_of_le hz
  obtain ⟨h21, e22⟩ : ∃ z, z = hu h14 q17 (.inr (5, [.null, .null, .null, .null, .int 0])) := ⟨_, rfl⟩
  have hH : hm D vwCl G h21 H16 := by rw [e22]; exact hH
  have nb_h_q17 : h q17 = none := kp_none hkp hn19 (nmc (Ne.symm (h_nf hn19 f_x)) nm0)
  have hkp : kp [x] h h21 := by rw [e22]; exact kp_new hkp hn19
  have ne_x_q17 : x ≠ q17 := h_nf hn19 f_x
  have f_x : h21 x = some (.inr (8, [.ref q2, .null, .null, .null, .null, .int 0, .int 0, .null, .null])) := by rw [e22, hu_n ne_x_q17]; exact f_x
  have ne_q2_q17 : q2 ≠ q17 := h_nf hn19 f_wr
  have f_wr : h21 q2 = some (.inr (7, [.ref su, .ref pg])) := by rw [e22, hu_n ne_q2_q17]; exact f_wr
  have ne_su_q17 : su ≠ q17 := h_nf hn19 f_su
  have f_su : h21 su = some (.inr (4, [.int (-1), .int 0, .int 0])) := by rw [e22, hu_n ne_su_q17]; exact f_su
  have ne_pg_q17 : pg ≠ q17 := h_nf hn19 f_pg
  have f_pg : h21 pg = some (.inr (3, [.ref pb])) := by rw [e22, hu_n ne_pg_q17]; exact f_pg
  have ne_pb_q17 : pb ≠ q17 := h_nf hn19 f_pb
  have f_pb : h21 pb = some (.inl ((t 0), 2048, .inl (fun _ => 0))) := by rw [e22, hu_n ne_pb_q17]; exact f_pb
  have f_rd : h21 q17 = some (.inr (5, [.null, .null, .null, .null, .int 0])) := by rw [e22]; exact hu_s _ _ _
  refine lv_dup hx hb d_Di_init_19 rfl ?_
  refine hm_callv (va_runIN (As := []) (b := q17) (rest := [.ref q17, .ref x]) ⟨hx, hb, hml, hown, hts⟩ (c_Reader_init l D t G ak av h21 q17 f_rd) ⟨cw9N 0 hts mw_250 (nmU hE nM_2) mw_249 rfl rfl (by decide +kernel) ⟨Nat.le_of_ble_eq_true rfl, Nat.le_of_ble_eq_true rfl⟩, rfl, hts _ mw_251⟩ (hP_S kE_ok hE hH) rfl rfl hl.1 rfl (lv_room (Nat.le_of_ble_eq_true rfl)) d_Di_init_20 ⟨Nat.le_of_ble_eq_true rfl, Nat.le_of_ble_eq_true rfl⟩) hLo (fun h23 H24 locs hp26 hH z25 hLo => ?_)
  have hz : s.heap.size ≤ H24.size := Nat.le_trans hz z25
  obtain ⟨hk9, pg2, no2, pb2, hq9, -⟩ := hp26
  have f_x : h23 x = some (.inr (8, [.ref q2, .null, .null, .null, .null, .int 0, .int 0, .null, .null])) := kp_at hk9 f_x (nmc ne_x_q17 nm0)
  have f_wr : h23 q2 = some (.inr (7, [.ref su, .ref pg])) := kp_at hk9 f_wr (nmc ne_q2_q17 nm0)
  have f_su : h23 su = some (.inr (4, [.int (-1), .int 0, .int 0])) := kp_at hk9 f_su (nmc ne_su_q17 nm0)
  have f_pg : h23 pg = some (.inr (3, [.ref pb])) := kp_at hk9 f_pg (nmc ne_pg_q17 nm0)
  have f_pb : h23 pb = some (.inl ((t 0), 2048, .inl (fun _ => 0))) := kp_at hk9 f_pb (nmc ne_pb_q17 nm0)
  have hkp : kp [x] h h23 := kp_tr2 hkp hk9 (List.forall_mem_cons.mpr ⟨Or.inr nb_h_q17, List.forall_mem_nil _⟩)
  refine hm_putF (ci := 8) (v := .ref q17) (ty := (.object "WriteOnceDisc$Reader")) (C := R_Di) (T := F_Di) (N := 9) hx hb hts ig_Di t_Di tk_Di nm_Di hown hK hH hLo f_x rfl 1 (by decide) (hts _ mw_252) (fun _ h9 => h9) rfl hin rfl (by decide +kernel) rfl rfl (Nat.le_of_ble_eq_true rfl) d_Di_init_23 (fun H27 locs hH z28 hLo => ?_)
  have hz : s.heap.size ≤ H27.size := by rw [z28]; exact hz
  obtain ⟨h29, e30⟩ : ∃ z, z = hu h23 x (.inr (8, [.ref q2, .ref q17, .null, .null, .null, .int 0, .int 0, .null, .null])) := ⟨_, rfl⟩
  have hH : hm D vwCl G h29 H27 := by rw [e30]; exact hH
  have f_wr : h29 q2 = some (.inr (7, [.ref su, .ref pg])) := by rw [e30, hu_n (Ne.symm ne_x_q2)]; exact f_wr
  have f_su : h29 su = some (.inr (4, [.int (-1), .int 0, .int 0])) := by rw [e30, hu_n (h_neC f_su f_x (by decide))]; exact f_su
  have f_pg : h29 pg = some (.inr (3, [.ref pb])) := by rw [e30, hu_n (h_neC f_pg f_x (by decide))]; exact f_pg
  have f_pb : h29 pb = some (.inl ((t 0), 2048, .inl (fun _ => 0))) := by rw [e30, hu_n (h_neA f_pb f_x)]; exact f_pb
  have f_x : h29 x = some (.inr (8, [.ref q2, .ref q17, .null, .null, .null, .int 0, .int 0, .null, .null])) := by rw [e30]; exact hu_s _ _ _
  have hkp : kp [x] h h29 := by rw [e30]; exact kp_put hkp (by simp)
  refine lv_aload_n hx hb d_Di_init_26 rfl (lv_at hl 0 rfl) ?_
  refine hm_new (ci := 2) (fs := [.null, .null, .int 0, .int 0]) (C := R_Ns) (T := F_Ns) (N := 4) hx hb hts ig_Ns t_Ns tk_Ns hown (hts _ mw_253) (hts _ mw_254) (hts _ mw_187) hK hH rfl df_Ns (Nat.le_of_ble_eq_true rfl) (Nat.le_of_ble_eq_true rfl) d_Di_init_27 (fun q32 H31 hq33 hn34 hH z35 => ?_)
  have hz : s.heap.size ≤ H31.size := by rw [z35]; exact Nat.le_succ_of_le hz
  obtain ⟨h36, e37⟩ : ∃ z, z = hu h29 q32 (.inr (2, [.null, .null, .int 0, .int 0])) := ⟨_, rfl⟩
  have hH : hm D vwCl G h36 H31 := by rw [e37]; exact hH
  have nb_h_q32 : h q32 = none := kp_none hkp hn34 (nmc (Ne.symm (h_nf hn34 f_x)) nm0)
  have hkp : kp [x] h h36 := by rw [e37]; exact kp_new hkp hn34
  have ne_x_q32 : x ≠ q32 := h_nf hn34 f_x
  have f_x : h36 x = some (.inr (8, [.ref q2, .ref q17, .null, .null, .null, .int 0, .int 0, .null, .null])) := by rw [e37, hu_n ne_x_q32]; exact f_x
  have ne_q2_q32 : q2 ≠ q32 := h_nf hn34 f_wr
  have f_wr : h36 q2 = some (.inr (7, [.ref su, .ref pg])) := by rw [e37, hu_n ne_q2_q32]; exact f_wr
  have ne_su_q32 : su ≠ q32 := h_nf hn34 f_su
  have f_su : h36 su = some (.inr (4, [.int (-1), .int 0, .int 0])) := by rw [e37, hu_n ne_su_q32]; exact f_su
  have ne_pg_q32 : pg ≠ q32 := h_nf hn34 f_pg
  have f_pg : h36 pg = some (.inr (3, [.ref pb])) := by rw [e37, hu_n ne_pg_q32]; exact f_pg
  have ne_pb_q32 : pb ≠ q32 := h_nf hn34 f_pb
  have f_pb : h36 pb = some (.inl ((t 0), 2048, .inl (fun _ => 0))) := by rw [e37, hu_n ne_pb_q32]; exact f_pb
  have f_ns9 : h36 q32 = some (.inr (2, [.null, .null, .int 0, .int 0])) := by rw [e37]; exact hu_s _ _ _
  refine lv_dup hx hb d_Di_init_30 rfl ?_
  refine hm_callv (va_runI (As := []) (b := q32) (rest := [.ref q32, .ref x]) ⟨hx, hb, hml, hown, hts⟩ (c_Nodes_init l D t G ak av h36 q32 f_ns9) ⟨cw9B 0 hts mw_255 mw_256 mw_187 rfl rfl (by decide +kernel) ⟨Nat.le_of_ble_eq_true rfl, Nat.le_of_ble_eq_true rfl⟩, rfl, hts _ mw_257⟩ (hP_S kE_ok hE hH) rfl rfl hl.1 rfl (lv_room (Nat.le_of_ble_eq_true rfl)) d_Di_init_31 ⟨Nat.le_of_ble_eq_true rfl, Nat.le_of_ble_eq_true rfl⟩) hLo (fun h38 H39 locs hp41 hH z40 hLo => ?_)
  have hz : s.heap.size ≤ H39.size := Nat.le_trans hz z40
  obtain ⟨hk9, sl9, od9, fs9, g9, hq9, hs9, ho9, hn9, hi9, hd9⟩ := hp41
  have f_x : h38 x = some (.inr (8, [.ref q2, .ref q17, .null, .null, .null, .int 0, .int 0, .null, .null])) := kp_at hk9 f_x (nmc ne_x_q32 nm0)
  have f_wr : h38 q2 = some (.inr (7, [.ref su, .ref pg])) := kp_at hk9 f_wr (nmc ne_q2_q32 nm0)
  have f_su : h38 su = some (.inr (4, [.int (-1), .int 0, .int 0])) := kp_at hk9 f_su (nmc ne_su_q32 nm0)
  have f_pg : h38 pg = some (.inr (3, [.ref pb])) := kp_at hk9 f_pg (nmc ne_pg_q32 nm0)
  have f_pb : h38 pb = some (.inl ((t 0), 2048, .inl (fun _ => 0))) := kp_at hk9 f_pb (nmc ne_pb_q32 nm0)
  have hkp : kp [x] h h38 := kp_tr2 hkp hk9 (List.forall_mem_cons.mpr ⟨Or.inr nb_h_q32, List.forall_mem_nil _⟩)
  obtain ⟨sl, rfl⟩ : ∃ z, z = sl9 := ⟨_, rfl⟩
  obtain ⟨od, rfl⟩ : ∃ z, z = od9 := ⟨_, rfl⟩
  obtain ⟨fs, rfl⟩ : ∃ z, z = fs9 := ⟨_, rfl⟩
  obtain ⟨g, rfl⟩ : ∃ z, z = g9 := ⟨_, rfl⟩
  have f_ns : h38 q32 = some (.inr (2, [.ref sl, .ref od, .int 1, .int 1])) := hq9
  have f_sl : h38 sl = some (.inl ((t 4), 30, .inr (.inr (.inr (.inr fs))))) := hs9
  have f_od : h38 od = some (.inl ((t 4), 30, .inr (.inr (.inr (.inr g))))) := ho9
  have hgf : ∀ j, j < 30 → g j = fs j := fun j hj => by
    obtain ⟨a, h1, h2, -⟩ := hn9 j hj
    rw [h1, h2]
  have hnd : rowP (.inr (1, [.int 0, .null, .int 1, .long 0, .int 0, .int 0, .int 0, .int 0, .int 0, .int 0, .int 1])) fs 0 30 h38 := ⟨hi9, fun j _ hj => by
    obtain ⟨a, h1, -, h3⟩ := hn9 j hj
    exact ⟨a, h1, h3⟩⟩
  have ne_sl_od : sl ≠ od := hd9
  refine hm_putF (ci := 8) (v := .ref q32) (ty := (.object "WriteOnceDisc$Nodes")) (C := R_Di) (T := F_Di) (N := 9) hx hb hts ig_Di t_Di tk_Di nm_Di hown hK hH hLo f_x rfl 2 (by decide) (hts _ mw_258) (fun _ h9 => h9) rfl hin rfl (by decide +kernel) rfl rfl (Nat.le_of_ble_eq_true rfl) d_Di_init_34 (fun H42 locs hH z43 hLo => ?_)
  have hz : s.heap.size ≤ H42.size := by rw [z43]; exact hz
  obtain ⟨h44, e45⟩ : ∃ z, z = hu h38 x (.inr (8, [.ref q2, .ref q17, .ref q32, .null, .null, .int 0, .int 0, .null, .null])) := ⟨_, rfl⟩
  have hH : hm D vwCl G h44 H42 := by rw [e45]; exact hH
  have hnd : rowP (.inr (1, [.int 0, .null, .int 1, .long 0, .int 0, .int 0, .int 0, .int 0, .int 0, .int 0, .int 1])) fs 0 30 h44 := by rw [e45]; exact rowP_put hnd (by rw [f_x]; simp)
  have f_wr : h44 q2 = some (.inr (7, [.ref su, .ref pg])) := by rw [e45, hu_n (Ne.symm ne_x_q2)]; exact f_wr
  have f_su : h44 su = some (.inr (4, [.int (-1), .int 0, .int 0])) := by rw [e45, hu_n (h_neC f_su f_x (by decide))]; exact f_su
  have f_pg : h44 pg = some (.inr (3, [.ref pb])) := by rw [e45, hu_n (h_neC f_pg f_x (by decide))]; exact f_pg
  have f_pb : h44 pb = some (.inl ((t 0), 2048, .inl (fun _ => 0))) := by rw [e45, hu_n (h_neA f_pb f_x)]; exact f_pb
  have f_ns : h44 q32 = some (.inr (2, [.ref sl, .ref od, .int 1, .int 1])) := by rw [e45, hu_n (Ne.symm ne_x_q32)]; exact f_ns
  have f_sl : h44 sl = some (.inl ((t 4), 30, .inr (.inr (.inr (.inr fs))))) := by rw [e45, hu_n (h_neA f_sl f_x)]; exact f_sl
  have f_od : h44 od = some (.inl ((t 4), 30, .inr (.inr (.inr (.inr g))))) := by rw [e45, hu_n (h_neA f_od f_x)]; exact f_od
  have f_x : h44 x = some (.inr (8, [.ref q2, .ref q17, .ref q32, .null, .null, .int 0, .int 0, .null, .null])) := by rw [e45]; exact hu_s _ _ _
  have hkp : kp [x] h h44 := by rw [e45]; exact kp_put hkp (by simp)
  refine lv_aload_n hx hb d_Di_init_37 rfl (lv_at hl 0 rfl) ?_
  refine lv_null hx hb d_Di_init_38 ?_
  refine hm_put (ci := 8) (v := .null) (ty := (.object "WriteOnceDisc$Medium")) (C := R_Di) (T := F_Di) (N := 9) hx hb hts ig_Di t_Di tk_Di nm_Di hown hK hH hLo f_x rfl 4 (by decide) (hts _ mw_259) (fun _ h9 => h9) rfl (by decide +kernel) rfl rfl (Nat.le_of_ble_eq_true rfl) d_Di_init_39 (fun H46 locs hH z47 hLo => ?_)
  have hz : s.heap.size ≤ H46.size := by rw [z47]; exact hz
  obtain ⟨h48, e49⟩ : ∃ z, z = hu h44 x (.inr (8, [.ref q2, .ref q17, .ref q32, .null, .null, .int 0, .int 0, .null, .null])) := ⟨_, rfl⟩
  have hH : hm D vwCl G h48 H46 := by rw [e49]; exact hH
  have hnd : rowP (.inr (1, [.int 0, .null, .int 1, .long 0, .int 0, .int 0, .int 0, .int 0, .int 0, .int 0, .int 1])) fs 0 30 h48 := by rw [e49]; exact rowP_put hnd (by rw [f_x]; simp)
  have f_wr : h48 q2 = some (.inr (7, [.ref su, .ref pg])) := by rw [e49, hu_n (Ne.symm ne_x_q2)]; exact f_wr
  have f_su : h48 su = some (.inr (4, [.int (-1), .int 0, .int 0])) := by rw [e49, hu_n (h_neC f_su f_x (by decide))]; exact f_su
  have f_pg : h48 pg = some (.inr (3, [.ref pb])) := by rw [e49, hu_n (h_neC f_pg f_x (by decide))]; exact f_pg
  have f_pb : h48 pb = some (.inl ((t 0), 2048, .inl (fun _ => 0))) := by rw [e49, hu_n (h_neA f_pb f_x)]; exact f_pb
  have f_ns : h48 q32 = some (.inr (2, [.ref sl, .ref od, .int 1, .int 1])) := by rw [e49, hu_n (Ne.symm ne_x_q32)]; exact f_ns
  have f_sl : h48 sl = some (.inl ((t 4), 30, .inr (.inr (.inr (.inr fs))))) := by rw [e49, hu_n (h_neA f_sl f_x)]; exact f_sl
  have f_od : h48 od = some (.inl ((t 4), 30, .inr (.inr (.inr (.inr g))))) := by rw [e49, hu_n (h_neA f_od f_x)]; exact f_od
  have f_x : h48 x = some (.inr (8, [.ref q2, .ref q17, .ref q32, .null, .null, .int 0, .int 0, .null, .null])) := by rw [e49]; exact hu_s _ _ _
  have hkp : kp [x] h h48 := by rw [e49]; exact kp_put hkp (by simp)
  refine lv_aload_n hx hb d_Di_init_42 rfl (lv_at hl 0 rfl) ?_
  refine lv_iconst (v := 0) hx hb d_Di_init_43 (by decide) ?_
  refine hm_put (ci := 8) (v := .int 0) (ty := .int) (C := R_Di) (T := F_Di) (N := 9) hx hb hts ig_Di t_Di tk_Di nm_Di hown hK hH hLo f_x rfl 5 (by decide) (hts _ mw_260) (fun _ h9 => h9) rfl (by decide +kernel) rfl rfl (Nat.le_of_ble_eq_true rfl) d_Di_init_44 (fun H50 locs hH z51 hLo => ?_)
  have hz : s.heap.size ≤ H50.size := by rw [z51]; exact hz
  obtain ⟨h52, e53⟩ : ∃ z, z = hu h48 x (.inr (8, [.ref q2, .ref q17, .ref q32, .null, .null, .int 0, .int 0, .null, .null])) := ⟨_, rfl⟩
  have hH : hm D vwCl G h52 H50 := by rw [e53]; exact hH
  have hnd : rowP (.inr (1, [.int 0, .null, .int 1, .long 0, .int 0, .int 0, .int 0, .int 0, .int 0, .int 0, .int 1])) fs 0 30 h52 := by rw [e53]; exact rowP_put hnd (by rw [f_x]; simp)
  have f_wr : h52 q2 = some (.inr (7, [.ref su, .ref pg])) := by rw [e53, hu_n (Ne.symm ne_x_q2)]; exact f_wr
  have f_su : h52 su = some (.inr (4, [.int (-1), .int 0, .int 0])) := by rw [e53, hu_n (h_neC f_su f_x (by decide))]; exact f_su
  have f_pg : h52 pg = some (.inr (3, [.ref pb])) := by rw [e53, hu_n (h_neC f_pg f_x (by decide))]; exact f_pg
  have f_pb : h52 pb = some (.inl ((t 0), 2048, .inl (fun _ => 0))) := by rw [e53, hu_n (h_neA f_pb f_x)]; exact f_pb
  have f_ns : h52 q32 = some (.inr (2, [.ref sl, .ref od, .int 1, .int 1])) := by rw [e53, hu_n (Ne.symm ne_x_q32)]; exact f_ns
  have f_sl : h52 sl = some (.inl ((t 4), 30, .inr (.inr (.inr (.inr fs))))) := by rw [e53, hu_n (h_neA f_sl f_x)]; exact f_sl
  have f_od : h52 od = some (.inl ((t 4), 30, .inr (.inr (.inr (.inr g))))) := by rw [e53, hu_n (h_neA f_od f_x)]; exact f_od
  have f_x : h52 x = some (.inr (8, [.ref q2, .ref q17, .ref q32, .null, .null, .int 0, .int 0, .null, .null])) := by rw [e53]; exact hu_s _ _ _
  have hkp : kp [x] h h52 := by rw [e53]; exact kp_put hkp (by simp)
  refine lv_aload_n hx hb d_Di_init_47 rfl (lv_at hl 0 rfl) ?_
  refine lv_iconst (v := 0) hx hb d_Di_init_48 (by decide) ?_
  refine hm_put (ci := 8) (v := .int 0) (ty := .boolean) (C := R_Di) (T := F_Di) (N := 9) hx hb hts ig_Di t_Di tk_Di nm_Di hown hK hH hLo f_x rfl 6 (by decide) (hts _ mw_261) (fun _ h9 => h9) rfl (by decide +kernel) (by decide) (by decide) (Nat.le_of_ble_eq_true rfl) d_Di_init_49 (fun H54 locs hH z55 hLo => ?_)
  have hz : s.heap.size ≤ H54.size := by rw [z55]; exact hz
  obtain ⟨h56, e57⟩ : ∃ z, z = hu h52 x (.inr (8, [.ref q2, .ref q17, .ref q32, .null, .null, .int 0, .int 0, .null, .null])) := ⟨_, rfl⟩
  have hH : hm D vwCl G h56 H54 := by rw [e57]; exact hH
  have hnd : rowP (.inr (1, [.int 0, .null, .int 1, .long 0, .int 0, .int 0, .int 0, .int 0, .int 0, .int 0, .int 1])) fs 0 30 h56 := by rw [e57]; exact rowP_put hnd (by rw [f_x]; simp)
  have f_wr : h56 q2 = some (.inr (7, [.ref su, .ref pg])) := by rw [e57, hu_n (Ne.symm ne_x_q2)]; exact f_wr
  have f_su : h56 su = some (.inr (4, [.int (-1), .int 0, .int 0])) := by rw [e57, hu_n (h_neC f_su f_x (by decide))]; exact f_su
  have f_pg : h56 pg = some (.inr (3, [.ref pb])) := by rw [e57, hu_n (h_neC f_pg f_x (by decide))]; exact f_pg
  have f_pb : h56 pb = some (.inl ((t 0), 2048, .inl (fun _ => 0))) := by rw [e57, hu_n (h_neA f_pb f_x)]; exact f_pb
  have f_ns : h56 q32 = some (.inr (2, [.ref sl, .ref od, .int 1, .int 1])) := by rw [e57, hu_n (Ne.symm ne_x_q32)]; exact f_ns
  have f_sl : h56 sl = some (.inl ((t 4), 30, .inr (.inr (.inr (.inr fs))))) := by rw [e57, hu_n (h_neA f_sl f_x)]; exact f_sl
  have f_od : h56 od = some (.inl ((t 4), 30, .inr (.inr (.inr (.inr g))))) := by rw [e57, hu_n (h_neA f_od f_x)]; exact f_od
  have f_x : h56 x = some (.inr (8, [.ref q2, .ref q17, .ref q32, .null, .null, .int 0, .int 0, .null, .null])) := by rw [e57]; exact hu_s _ _ _
  have hkp : kp [x] h h56 := by rw [e57]; exact kp_put hkp (by simp)
  refine lv_aload_n hx hb d_Di_init_52 rfl (lv_at hl 0 rfl) ?_
  refine hm_new (ci := 2) (fs := [.null, .null, .int 0, .int 0]) (C := R_Ns) (T := F_Ns) (N := 4) hx hb hts ig_Ns t_Ns tk_Ns hown (hts _ mw_253) (hts _ mw_254) (hts _ mw_187) hK hH rfl df_Ns (Nat.le_of_ble_eq_true rfl) (Nat.le_of_ble_eq_true rfl) d_Di_init_53 (fun q59 H58 hq60 hn61 hH z62 => ?_)
  have hz : s.heap.size ≤ H58.size := by rw [z62]; exact Nat.le_succ_of_le hz
  obtain ⟨h63, e64⟩ : ∃ z, z = hu h56 q59 (.inr (2, [.null, .null, .int 0, .int 0])) := ⟨_, rfl⟩
  have hH : hm D vwCl G h63 H58 := by rw [e64]; exact hH
  have hnd : rowP (.inr (1, [.int 0, .null, .int 1, .long 0, .int 0, .int 0, .int 0, .int 0, .int 0, .int 0, .int 1])) fs 0 30 h63 := by rw [e64]; exact rowP_put hnd (by rw [hn61]; simp)
  have nb_h_q59 : h q59 = none := kp_none hkp hn61 (nmc (Ne.symm (h_nf hn61 f_x)) nm0)
  have hkp : kp [x] h h63 := by rw [e64]; exact kp_new hkp hn61
  have ne_x_q59 : x ≠ q59 := h_nf hn61 f_x
  have f_x : h63 x = some (.inr (8, [.ref q2, .ref q17, .ref q32, .null, .null, .int 0, .int 0, .null, .null])) := by rw [e64, hu_n ne_x_q59]; exact f_x
  have ne_q2_q59 : q2 ≠ q59 := h_nf hn61 f_wr
  have f_wr : h63 q2 = some (.inr (7, [.ref su, .ref pg])) := by rw [e64, hu_n ne_q2_q59]; exact f_wr
  have ne_su_q59 : su ≠ q59 := h_nf hn61 f_su
  have f_su : h63 su = some (.inr (4, [.int (-1), .int 0, .int 0])) := by rw [e64, hu_n ne_su_q59]; exact f_su
  have ne_pg_q59 : pg ≠ q59 := h_nf hn61 f_pg
  have f_pg : h63 pg = some (.inr (3, [.ref pb])) := by rw [e64, hu_n ne_pg_q59]; exact f_pg
  have ne_pb_q59 : pb ≠ q59 := h_nf hn61 f_pb
  have f_pb : h63 pb = some (.inl ((t 0), 2048, .inl (fun _ => 0))) := by rw [e64, hu_n ne_pb_q59]; exact f_pb
  have ne_q32_q59 : q32 ≠ q59 := h_nf hn61 f_ns
  have f_ns : h63 q32 = some (.inr (2, [.ref sl, .ref od, .int 1, .int 1])) := by rw [e64, hu_n ne_q32_q59]; exact f_ns
  have ne_sl_q59 : sl ≠ q59 := h_nf hn61 f_sl
  have f_sl : h63 sl = some (.inl ((t 4), 30, .inr (.inr (.inr (.inr fs))))) := by rw [e64, hu_n ne_sl_q59]; exact f_sl
  have ne_od_q59 : od ≠ q59 := h_nf hn61 f_od
  have f_od : h63 od = some (.inl ((t 4), 30, .inr (.inr (.inr (.inr g))))) := by rw [e64, hu_n ne_od_q59]; exact f_od
  have f_ns9 : h63 q59 = some (.inr (2, [.null, .null, .int 0, .int 0])) := by rw [e64]; exact hu_s _ _ _
  refine lv_dup hx hb d_Di_init_56 rfl ?_
  refine hm_callv (va_runI (As := []) (b := q59) (rest := [.ref q59, .ref x]) ⟨hx, hb, hml, hown, hts⟩ (c_Nodes_init l D t G ak av h63 q59 f_ns9) ⟨cw9B 0 hts mw_255 mw_256 mw_187 rfl rfl (by decide +kernel) ⟨Nat.le_of_ble_eq_true rfl, Nat.le_of_ble_eq_true rfl⟩, rfl, hts _ mw_257⟩ (hP_S kE_ok hE hH) rfl rfl hl.1 rfl (lv_room (Nat.le_of_ble_eq_true rfl)) d_Di_init_57 ⟨Nat.le_of_ble_eq_true rfl, Nat.le_of_ble_eq_true rfl⟩) hLo (fun h65 H66 locs hp68 hH z67 hLo => ?_)
  have hz : s.heap.size ≤ H66.size := Nat.le_trans hz z67
  obtain ⟨hk9, sl9, od9, fs9, g9, hq9, hs9, ho9, hn9, hi9, hd9⟩ := hp68
  have hnd : rowP (.inr (1, [.int 0, .null, .int 1, .long 0, .int 0, .int 0, .int 0, .int 0, .int 0, .int 0, .int 1])) fs 0 30 h65 := rowP_kp hnd hk9 (List.forall_mem_cons.mpr ⟨by rw [f_ns9]; simp, List.forall_mem_nil _⟩)
  have f_x : h65 x = some (.inr (8, [.ref q2, .ref q17, .ref q32, .null, .null, .int 0, .int 0, .null, .null])) := kp_at hk9 f_x (nmc ne_x_q59 nm0)
  have f_wr : h65 q2 = some (.inr (7, [.ref su, .ref pg])) := kp_at hk9 f_wr (nmc ne_q2_q59 nm0)
  have f_su : h65 su = some (.inr (4, [.int (-1), .int 0, .int 0])) := kp_at hk9 f_su (nmc ne_su_q59 nm0)
  have f_pg : h65 pg = some (.inr (3, [.ref pb])) := kp_at hk9 f_pg (nmc ne_pg_q59 nm0)
  have f_pb : h65 pb = some (.inl ((t 0), 2048, .inl (fun _ => 0))) := kp_at hk9 f_pb (nmc ne_pb_q59 nm0)
  have f_ns : h65 q32 = some (.inr (2, [.ref sl, .ref od, .int 1, .int 1])) := kp_at hk9 f_ns (nmc ne_q32_q59 nm0)
  have f_sl : h65 sl = some (.inl ((t 4), 30, .inr (.inr (.inr (.inr fs))))) := kp_at hk9 f_sl (nmc ne_sl_q59 nm0)
  have f_od : h65 od = some (.inl ((t 4), 30, .inr (.inr (.inr (.inr g))))) := kp_at hk9 f_od (nmc ne_od_q59 nm0)
  have hkp : kp [x] h h65 := kp_tr2 hkp hk9 (List.forall_mem_cons.mpr ⟨Or.inr nb_h_q59, List.forall_mem_nil _⟩)
  refine hm_put (ci := 8) (v := .ref q59) (ty := (.object "WriteOnceDisc$Nodes")) (C := R_Di) (T := F_Di) (N := 9) hx hb hts ig_Di t_Di tk_Di nm_Di hown hK hH hLo f_x rfl 7 (by decide) (hts _ mw_262) (fun _ h9 => h9) rfl (by decide +kernel) rfl rfl (Nat.le_of_ble_eq_true rfl) d_Di_init_60 (fun H69 locs hH z70 hLo => ?_)
  have hz : s.heap.size ≤ H69.size := by rw [z70]; exact hz
  obtain ⟨h71, e72⟩ : ∃ z, z = hu h65 x (.inr (8, [.ref q2, .ref q17, .ref q32, .null, .null, .int 0, .int 0, .ref q59, .null])) := ⟨_, rfl⟩
  have hH : hm D vwCl G h71 H69 := by rw [e72]; exact hH
  have hnd : rowP (.inr (1, [.int 0, .null, .int 1, .long 0, .int 0, .int 0, .int 0, .int 0, .int 0, .int 0, .int 1])) fs 0 30 h71 := by rw [e72]; exact rowP_put hnd (by rw [f_x]; simp)
  have f_wr : h71 q2 = some (.inr (7, [.ref su, .ref pg])) := by rw [e72, hu_n (Ne.symm ne_x_q2)]; exact f_wr
  have f_su : h71 su = some (.inr (4, [.int (-1), .int 0, .int 0])) := by rw [e72, hu_n (h_neC f_su f_x (by decide))]; exact f_su
  have f_pg : h71 pg = some (.inr (3, [.ref pb])) := by rw [e72, hu_n (h_neC f_pg f_x (by decide))]; exact f_pg
  have f_pb : h71 pb = some (.inl ((t 0), 2048, .inl (fun _ => 0))) := by rw [e72, hu_n (h_neA f_pb f_x)]; exact f_pb
  have f_ns : h71 q32 = some (.inr (2, [.ref sl, .ref od, .int 1, .int 1])) := by rw [e72, hu_n (Ne.symm ne_x_q32)]; exact f_ns
  have f_sl : h71 sl = some (.inl ((t 4), 30, .inr (.inr (.inr (.inr fs))))) := by rw [e72, hu_n (h_neA f_sl f_x)]; exact f_sl
  have f_od : h71 od = some (.inl ((t 4), 30, .inr (.inr (.inr (.inr g))))) := by rw [e72, hu_n (h_neA f_od f_x)]; exact f_od
  have f_x : h71 x = some (.inr (8, [.ref q2, .ref q17, .ref q32, .null, .null, .int 0, .int 0, .ref q59, .null])) := by rw [e72]; exact hu_s _ _ _
  have hkp : kp [x] h h71 := by rw [e72]; exact kp_put hkp (by simp)
  refine lv_aload_n hx hb d_Di_init_63 rfl (lv_at hl 0 rfl) ?_
  refine hm_new (ci := 2) (fs := [.null, .null, .int 0, .int 0]) (C := R_Ns) (T := F_Ns) (N := 4) hx hb hts ig_Ns t_Ns tk_Ns hown (hts _ mw_253) (hts _ mw_254) (hts _ mw_187) hK hH rfl df_Ns (Nat.le_of_ble_eq_true rfl) (Nat.le_of_ble_eq_true rfl) d_Di_init_64 (fun q74 H73 hq75 hn76 hH z77 => ?_)
  have hz : s.heap.size ≤ H73.size := by rw [z77]; exact Nat.le_succ_of_le hz
  obtain ⟨h78, e79⟩ : ∃ z, z = hu h71 q74 (.inr (2, [.null, .null, .int 0, .int 0])) := ⟨_, rfl⟩
  have hH : hm D vwCl G h78 H73 := by rw [e79]; exact hH
  have hnd : rowP (.inr (1, [.int 0, .null, .int 1, .long 0, .int 0, .int 0, .int 0, .int 0, .int 0, .int 0, .int 1])) fs 0 30 h78 := by rw [e79]; exact rowP_put hnd (by rw [hn76]; simp)
  have nb_h_q74 : h q74 = none := kp_none hkp hn76 (nmc (Ne.symm (h_nf hn76 f_x)) nm0)
  have hkp : kp [x] h h78 := by rw [e79]; exact kp_new hkp hn76
  have ne_x_q74 : x ≠ q74 := h_nf hn76 f_x
  have f_x : h78 x = some (.inr (8, [.ref q2, .ref q17, .ref q32, .null, .null, .int 0, .int 0, .ref q59, .null])) := by rw [e79, hu_n ne_x_q74]; exact f_x
  have ne_q2_q74 : q2 ≠ q74 := h_nf hn76 f_wr
  have f_wr : h78 q2 = some (.inr (7, [.ref su, .ref pg])) := by rw [e79, hu_n ne_q2_q74]; exact f_wr
  have ne_su_q74 : su ≠ q74 := h_nf hn76 f_su
  have f_su : h78 su = some (.inr (4, [.int (-1), .int 0, .int 0])) := by rw [e79, hu_n ne_su_q74]; exact f_su
  have ne_pg_q74 : pg ≠ q74 := h_nf hn76 f_pg
  have f_pg : h78 pg = some (.inr (3, [.ref pb])) := by rw [e79, hu_n ne_pg_q74]; exact f_pg
  have ne_pb_q74 : pb ≠ q74 := h_nf hn76 f_pb
  have f_pb : h78 pb = some (.inl ((t 0), 2048, .inl (fun _ => 0))) := by rw [e79, hu_n ne_pb_q74]; exact f_pb
  have ne_q32_q74 : q32 ≠ q74 := h_nf hn76 f_ns
  have f_ns : h78 q32 = some (.inr (2, [.ref sl, .ref od, .int 1, .int 1])) := by rw [e79, hu_n ne_q32_q74]; exact f_ns
  have ne_sl_q74 : sl ≠ q74 := h_nf hn76 f_sl
  have f_sl : h78 sl = some (.inl ((t 4), 30, .inr (.inr (.inr (.inr fs))))) := by rw [e79, hu_n ne_sl_q74]; exact f_sl
  have ne_od_q74 : od ≠ q74 := h_nf hn76 f_od
  have f_od : h78 od = some (.inl ((t 4), 30, .inr (.inr (.inr (.inr g))))) := by rw [e79, hu_n ne_od_q74]; exact f_od
  have f_ns9 : h78 q74 = some (.inr (2, [.null, .null, .int 0, .int 0])) := by rw [e79]; exact hu_s _ _ _
  refine lv_dup hx hb d_Di_init_67 rfl ?_
  refine hm_callv (va_runI (As := []) (b := q74) (rest := [.ref q74, .ref x]) ⟨hx, hb, hml, hown, hts⟩ (c_Nodes_init l D t G ak av h78 q74 f_ns9) ⟨cw9B 0 hts mw_255 mw_256 mw_187 rfl rfl (by decide +kernel) ⟨Nat.le_of_ble_eq_true rfl, Nat.le_of_ble_eq_true rfl⟩, rfl, hts _ mw_257⟩ (hP_S kE_ok hE hH) rfl rfl hl.1 rfl (lv_room (Nat.le_of_ble_eq_true rfl)) d_Di_init_68 ⟨Nat.le_of_ble_eq_true rfl, Nat.le_of_ble_eq_true rfl⟩) hLo (fun h80 H81 locs hp83 hH z82 hLo => ?_)
  have hz : s.heap.size ≤ H81.size := Nat.le_trans hz z82
  obtain ⟨hk9, sl9, od9, fs9, g9, hq9, hs9, ho9, hn9, hi9, hd9⟩ := hp83
  have hnd : rowP (.inr (1, [.int 0, .null, .int 1, .long 0, .int 0, .int 0, .int 0, .int 0, .int 0, .int 0, .int 1])) fs 0 30 h80 := rowP_kp hnd hk9 (List.forall_mem_cons.mpr ⟨by rw [f_ns9]; simp, List.forall_mem_nil _⟩)
  have f_x : h80 x = some (.inr (8, [.ref q2, .ref q17, .ref q32, .null, .null, .int 0, .int 0, .ref q59, .null])) := kp_at hk9 f_x (nmc ne_x_q74 nm0)
  have f_wr : h80 q2 = some (.inr (7, [.ref su, .ref pg])) := kp_at hk9 f_wr (nmc ne_q2_q74 nm0)
  have f_su : h80 su = some (.inr (4, [.int (-1), .int 0, .int 0])) := kp_at hk9 f_su (nmc ne_su_q74 nm0)
  have f_pg : h80 pg = some (.inr (3, [.ref pb])) := kp_at hk9 f_pg (nmc ne_pg_q74 nm0)
  have f_pb : h80 pb = some (.inl ((t 0), 2048, .inl (fun _ => 0))) := kp_at hk9 f_pb (nmc ne_pb_q74 nm0)
  have f_ns : h80 q32 = some (.inr (2, [.ref sl, .ref od, .int 1, .int 1])) := kp_at hk9 f_ns (nmc ne_q32_q74 nm0)
  have f_sl : h80 sl = some (.inl ((t 4), 30, .inr (.inr (.inr (.inr fs))))) := kp_at hk9 f_sl (nmc ne_sl_q74 nm0)
  have f_od : h80 od = some (.inl ((t 4), 30, .inr (.inr (.inr (.inr g))))) := kp_at hk9 f_od (nmc ne_od_q74 nm0)
  have hkp : kp [x] h h80 := kp_tr2 hkp hk9 (List.forall_mem_cons.mpr ⟨Or.inr nb_h_q74, List.forall_mem_nil _⟩)
  refine hm_put (ci := 8) (v := .ref q74) (ty := (.object "WriteOnceDisc$Nodes")) (C := R_Di) (T := F_Di) (N := 9) hx hb hts ig_Di t_Di tk_Di nm_Di hown hK hH hLo f_x rfl 8 (by decide) (hts _ mw_263) (fun _ h9 => h9) rfl (by decide +kernel) rfl rfl (Nat.le_of_ble_eq_true rfl) d_Di_init_71 (fun H84 locs hH z85 hLo => ?_)
  have hz : s.heap.size ≤ H84.size := by rw [z85]; exact hz
  obtain ⟨h86, e87⟩ : ∃ z, z = hu h80 x (.inr (8, [.ref q2, .ref q17, .ref q32, .null, .null, .int 0, .int 0, .ref q59, .ref q74])) := ⟨_, rfl⟩
  have hH : hm D vwCl G h86 H84 := by rw [e87]; exact hH
  have hnd : rowP (.inr (1, [.int 0, .null, .int 1, .long 0, .int 0, .int 0, .int 0, .int 0, .int 0, .int 0, .int 1])) fs 0 30 h86 := by rw [e87]; exact rowP_put hnd (by rw [f_x]; simp)
  have f_wr : h86 q2 = some (.inr (7, [.ref su, .ref pg])) := by rw [e87, hu_n (Ne.symm ne_x_q2)]; exact f_wr
  have f_su : h86 su = some (.inr (4, [.int (-1), .int 0, .int 0])) := by rw [e87, hu_n (h_neC f_su f_x (by decide))]; exact f_su
  have f_pg : h86 pg = some (.inr (3, [.ref pb])) := by rw [e87, hu_n (h_neC f_pg f_x (by decide))]; exact f_pg
  have f_pb : h86 pb = some (.inl ((t 0), 2048, .inl (fun _ => 0))) := by rw [e87, hu_n (h_neA f_pb f_x)]; exact f_pb
  have f_ns : h86 q32 = some (.inr (2, [.ref sl, .ref od, .int 1, .int 1])) := by rw [e87, hu_n (Ne.symm ne_x_q32)]; exact f_ns
  have f_sl : h86 sl = some (.inl ((t 4), 30, .inr (.inr (.inr (.inr fs))))) := by rw [e87, hu_n (h_neA f_sl f_x)]; exact f_sl
  have f_od : h86 od = some (.inl ((t 4), 30, .inr (.inr (.inr (.inr g))))) := by rw [e87, hu_n (h_neA f_od f_x)]; exact f_od
  have f_x : h86 x = some (.inr (8, [.ref q2, .ref q17, .ref q32, .null, .null, .int 0, .int 0, .ref q59, .ref q74])) := by rw [e87]; exact hu_s _ _ _
  have hkp : kp [x] h h86 := by rw [e87]; exact kp_put hkp (by simp)
  refine lv_aload_n hx hb d_Di_init_74 rfl (lv_at hl 0 rfl) ?_
  refine hm_new (ci := 0) (fs := [.null, .int 0]) (C := R_Me) (T := F_Me) (N := 2) hx hb hts ig_Me t_Me tk_Me hown (hts _ mw_264) (hts _ mw_265) (hts _ mw_163) hK hH rfl df_Me (Nat.le_of_ble_eq_true rfl) (Nat.le_of_ble_eq_true rfl) d_Di_init_75 (fun q89 H88 hq90 hn91 hH z92 => ?_)
  have hz : s.heap.size ≤ H88.size := by rw [z92]; exact Nat.le_succ_of_le hz
  obtain ⟨h93, e94⟩ : ∃ z, z = hu h86 q89 (.inr (0, [.null, .int 0])) := ⟨_, rfl⟩
  have hH : hm D vwCl G h93 H88 := by rw [e94]; exact hH
  have hnd : rowP (.inr (1, [.int 0, .null, .int 1, .long 0, .int 0, .int 0, .int 0, .int 0, .int 0, .int 0, .int 1])) fs 0 30 h93 := by rw [e94]; exact rowP_put hnd (by rw [hn91]; simp)
  have nb_h_q89 : h q89 = none := kp_none hkp hn91 (nmc (Ne.symm (h_nf hn91 f_x)) nm0)
  have hkp : kp [x] h h93 := by rw [e94]; exact kp_new hkp hn91
  have ne_x_q89 : x ≠ q89 := h_nf hn91 f_x
  have f_x : h93 x = some (.inr (8, [.ref q2, .ref q17, .ref q32, .null, .null, .int 0, .int 0, .ref q59, .ref q74])) := by rw [e94, hu_n ne_x_q89]; exact f_x
  have ne_q2_q89 : q2 ≠ q89 := h_nf hn91 f_wr
  have f_wr : h93 q2 = some (.inr (7, [.ref su, .ref pg])) := by rw [e94, hu_n ne_q2_q89]; exact f_wr
  have ne_su_q89 : su ≠ q89 := h_nf hn91 f_su
  have f_su : h93 su = some (.inr (4, [.int (-1), .int 0, .int 0])) := by rw [e94, hu_n ne_su_q89]; exact f_su
  have ne_pg_q89 : pg ≠ q89 := h_nf hn91 f_pg
  have f_pg : h93 pg = some (.inr (3, [.ref pb])) := by rw [e94, hu_n ne_pg_q89]; exact f_pg
  have ne_pb_q89 : pb ≠ q89 := h_nf hn91 f_pb
  have f_pb : h93 pb = some (.inl ((t 0), 2048, .inl (fun _ => 0))) := by rw [e94, hu_n ne_pb_q89]; exact f_pb
  have ne_q32_q89 : q32 ≠ q89 := h_nf hn91 f_ns
  have f_ns : h93 q32 = some (.inr (2, [.ref sl, .ref od, .int 1, .int 1])) := by rw [e94, hu_n ne_q32_q89]; exact f_ns
  have ne_sl_q89 : sl ≠ q89 := h_nf hn91 f_sl
  have f_sl : h93 sl = some (.inl ((t 4), 30, .inr (.inr (.inr (.inr fs))))) := by rw [e94, hu_n ne_sl_q89]; exact f_sl
  have ne_od_q89 : od ≠ q89 := h_nf hn91 f_od
  have f_od : h93 od = some (.inl ((t 4), 30, .inr (.inr (.inr (.inr g))))) := by rw [e94, hu_n ne_od_q89]; exact f_od
  have f_md : h93 q89 = some (.inr (0, [.null, .int 0])) := by rw [e94]; exact hu_s _ _ _
  refine lv_dup hx hb d_Di_init_78 rfl ?_
  refine lv_iload_n hx hb d_Di_init_79 rfl (lv_at hl 1 rfl) ?_
  refine lv_bipush (v := 40) hx hb d_Di_init_80 (by decide) ?_
  refine lv_icmp_lt (tgt := 96) hx hb d_Di_init_82 (by decide) (fun hc95 => ?_) (fun hc95 => ?_)
  · skip
    have hz9 := nsz_lo hc95
    refine lv_bipush (v := 100) hx hb d_Di_init_96 (by decide) ?_
    refine lv_topi (fun v96 e97 => ?_)
    obtain rfl : v96 = nI 100 := e97.trans (by decide)
    refine hm_callv (va_runI (As := [.int (nI 100)]) (b := q89) (rest := [.ref q89, .ref x]) ⟨hx, hb, hml, hown, hts⟩ (c_Medium_init l D t G ak av h93 q89 100 f_md (by omega)) ⟨cw9B 1 hts mw_266 mw_267 mw_163 rfl rfl (by decide +kernel) ⟨Nat.le_of_ble_eq_true rfl, Nat.le_of_ble_eq_true rfl⟩, rfl, hts _ mw_268⟩ (hP_S kE_ok hE hH) rfl rfl hl.1 rfl (lv_room (Nat.le_of_ble_eq_true rfl)) d_Di_init_98 ⟨Nat.le_of_ble_eq_true rfl, Nat.le_of_ble_eq_true rfl⟩) hLo (fun h98 H99 locs hp101 hH z100 hLo => ?_)
    have hz : s.heap.size ≤ H99.size := Nat.le_trans hz z100
    obtain ⟨hk9, sa, fa, hq9, ha9, hrow⟩ := hp101
    have hnd : rowP (.inr (1, [.int 0, .null, .int 1, .long 0, .int 0, .int 0, .int 0, .int 0, .int 0, .int 0, .int 1])) fs 0 30 h98 := rowP_kp hnd hk9 (List.forall_mem_cons.mpr ⟨by rw [f_md]; simp, List.forall_mem_nil _⟩)
    have f_x : h98 x = some (.inr (8, [.ref q2, .ref q17, .ref q32, .null, .null, .int 0, .int 0, .ref q59, .ref q74])) := kp_at hk9 f_x (nmc ne_x_q89 nm0)
    have f_wr : h98 q2 = some (.inr (7, [.ref su, .ref pg])) := kp_at hk9 f_wr (nmc ne_q2_q89 nm0)
    have f_su : h98 su = some (.inr (4, [.int (-1), .int 0, .int 0])) := kp_at hk9 f_su (nmc ne_su_q89 nm0)
    have f_pg : h98 pg = some (.inr (3, [.ref pb])) := kp_at hk9 f_pg (nmc ne_pg_q89 nm0)
    have f_pb : h98 pb = some (.inl ((t 0), 2048, .inl (fun _ => 0))) := kp_at hk9 f_pb (nmc ne_pb_q89 nm0)
    have f_ns : h98 q32 = some (.inr (2, [.ref sl, .ref od, .int 1, .int 1])) := kp_at hk9 f_ns (nmc ne_q32_q89 nm0)
    have f_sl : h98 sl = some (.inl ((t 4), 30, .inr (.inr (.inr (.inr fs))))) := kp_at hk9 f_sl (nmc ne_sl_q89 nm0)
    have f_od : h98 od = some (.inl ((t 4), 30, .inr (.inr (.inr (.inr g))))) := kp_at hk9 f_od (nmc ne_od_q89 nm0)
    have hkp : kp [x] h h98 := kp_tr2 hkp hk9 (List.forall_mem_cons.mpr ⟨Or.inr nb_h_q89, List.forall_mem_nil _⟩)
    have f_md : h98 q89 = some (.inr (0, [.ref sa, .int 0])) := hq9
    have f_sa : h98 sa = some (.inl ((t 5), 100, .inr (.inr (.inr (.inr fa))))) := ha9
    refine hm_put (ci := 8) (v := .ref q89) (ty := (.object "WriteOnceDisc$Medium")) (C := R_Di) (T := F_Di) (N := 9) hx hb hts ig_Di t_Di tk_Di nm_Di hown hK hH hLo f_x rfl 3 (by decide) (hts _ mw_269) (fun _ h9 => h9) rfl (by decide +kernel) rfl rfl (Nat.le_of_ble_eq_true rfl) d_Di_init_101 (fun H102 locs hH z103 hLo => ?_)
    have hz : s.heap.size ≤ H102.size := by rw [z103]; exact hz
    obtain ⟨h104, e105⟩ : ∃ z, z = hu h98 x (.inr (8, [.ref q2, .ref q17, .ref q32, .ref q89, .null, .int 0, .int 0, .ref q59, .ref q74])) := ⟨_, rfl⟩
    have hH : hm D vwCl G h104 H102 := by rw [e105]; exact hH
    have hnd : rowP (.inr (1, [.int 0, .null, .int 1, .long 0, .int 0, .int 0, .int 0, .int 0, .int 0, .int 0, .int 1])) fs 0 30 h104 := by rw [e105]; exact rowP_put hnd (by rw [f_x]; simp)
    have hrow : rowP (.inr (6, [.int 0, .int 0, .null])) fa 0 100 h104 := by rw [e105]; exact rowP_put hrow (by rw [f_x]; simp)
    have f_wr : h104 q2 = some (.inr (7, [.ref su, .ref pg])) := by rw [e105, hu_n (Ne.symm ne_x_q2)]; exact f_wr
    have f_su : h104 su = some (.inr (4, [.int (-1), .int 0, .int 0])) := by rw [e105, hu_n (h_neC f_su f_x (by decide))]; exact f_su
    have f_pg : h104 pg = some (.inr (3, [.ref pb])) := by rw [e105, hu_n (h_neC f_pg f_x (by decide))]; exact f_pg
    have f_pb : h104 pb = some (.inl ((t 0), 2048, .inl (fun _ => 0))) := by rw [e105, hu_n (h_neA f_pb f_x)]; exact f_pb
    have f_ns : h104 q32 = some (.inr (2, [.ref sl, .ref od, .int 1, .int 1])) := by rw [e105, hu_n (Ne.symm ne_x_q32)]; exact f_ns
    have f_sl : h104 sl = some (.inl ((t 4), 30, .inr (.inr (.inr (.inr fs))))) := by rw [e105, hu_n (h_neA f_sl f_x)]; exact f_sl
    have f_od : h104 od = some (.inl ((t 4), 30, .inr (.inr (.inr (.inr g))))) := by rw [e105, hu_n (h_neA f_od f_x)]; exact f_od
    have f_md : h104 q89 = some (.inr (0, [.ref sa, .int 0])) := by rw [e105, hu_n (Ne.symm ne_x_q89)]; exact f_md
    have f_sa : h104 sa = some (.inl ((t 5), 100, .inr (.inr (.inr (.inr fa))))) := by rw [e105, hu_n (h_neA f_sa f_x)]; exact f_sa
    have f_x : h104 x = some (.inr (8, [.ref q2, .ref q17, .ref q32, .ref q89, .null, .int 0, .int 0, .ref q59, .ref q74])) := by rw [e105]; exact hu_s _ _ _
    have hkp : kp [x] h h104 := by rw [e105]; exact kp_put hkp (by simp)
    have f_md : h104 q89 = some (.inr (0, [.ref sa, .int (nI 0)])) := by rw [nI_0]; exact f_md
    rw [← hz9] at f_sa hrow
    exact W.vret hx hb hr (fun t9 ht hW => ⟨h104, rfl, ⟨hkp, q2, q17, q32, q59, q74, q89, su, pg, pb, sl, od, sa, fs, g, fa, f_x, f_wr, f_su, f_pg, f_pb, f_ns, f_sl, f_od, hgf, hnd, f_md, f_sa, hrow, ne_sl_od, by omega, by omega⟩, by rw [ht]; exact hH, by rw [ht]; exact hz⟩) hLo d_Di_init_104
  · skip
    refine lv_iload_n hx hb d_Di_init_85 rfl (lv_at hl 1 rfl) ?_
    refine lv_sipush (v := 200) hx hb d_Di_init_86 (by decide) ?_
    refine lv_icmp_gt (tgt := 96) hx hb d_Di_init_89 (by decide) (fun hc106 => ?_) (fun hc106 => ?_)
    · skip
      have hz9 := nsz_hi hc106
      refine lv_bipush (v := 100) hx hb d_Di_init_96 (by decide) ?_
      refine lv_topi (fun v107 e108 => ?_)
      obtain rfl : v107 = nI 100 := e108.trans (by decide)
      refine hm_callv (va_runI (As := [.int (nI 100)]) (b := q89) (rest := [.ref q89, .ref x]) ⟨hx, hb, hml, hown, hts⟩ (c_Medium_init l D t G ak av h93 q89 100 f_md (by omega)) ⟨cw9B 1 hts mw_266 mw_267 mw_163 rfl rfl (by decide +kernel) ⟨Nat.le_of_ble_eq_true rfl, Nat.le_of_ble_eq_true rfl⟩, rfl, hts _ mw_268⟩ (hP_S kE_ok hE hH) rfl rfl hl.1 rfl (lv_room (Nat.le_of_ble_eq_true rfl)) d_Di_init_98 ⟨Nat.le_of_ble_eq_true rfl, Nat.le_of_ble_eq_true rfl⟩) hLo (fun h109 H110 locs hp112 hH z111 hLo => ?_)
      have hz : s.heap.size ≤ H110.size := Nat.le_trans hz z111
      obtain ⟨hk9, sa, fa, hq9, ha9, hrow⟩ := hp112
      have hnd : rowP (.inr (1, [.int 0, .null, .int 1, .long 0, .int 0, .int 0, .int 0, .int 0, .int 0, .int 0, .int 1])) fs 0 30 h109 := rowP_kp hnd hk9 (List.forall_mem_cons.mpr ⟨by rw [f_md]; simp, List.forall_mem_nil _⟩)
      have f_x : h109 x = some (.inr (8, [.ref q2, .ref q17, .ref q32, .null, .null, .int 0, .int 0, .ref q59, .ref q74])) := kp_at hk9 f_x (nmc ne_x_q89 nm0)
      have f_wr : h109 q2 = some (.inr (7, [.ref su, .ref pg])) := kp_at hk9 f_wr (nmc ne_q2_q89 nm0)
      have f_su : h109 su = some (.inr (4, [.int (-1), .int 0, .int 0])) := kp_at hk9 f_su (nmc ne_su_q89 nm0)
      have f_pg : h109 pg = some (.inr (3, [.ref pb])) := kp_at hk9 f_pg (nmc ne_pg_q89 nm0)
      have f_pb : h109 pb = some (.inl ((t 0), 2048, .inl (fun _ => 0))) := kp_at hk9 f_pb (nmc ne_pb_q89 nm0)
      have f_ns : h109 q32 = some (.inr (2, [.ref sl, .ref od, .int 1, .int 1])) := kp_at hk9 f_ns (nmc ne_q32_q89 nm0)
      have f_sl : h109 sl = some (.inl ((t 4), 30, .inr (.inr (.inr (.inr fs))))) := kp_at hk9 f_sl (nmc ne_sl_q89 nm0)
      have f_od : h109 od = some (.inl ((t 4), 30, .inr (.inr (.inr (.inr g))))) := kp_at hk9 f_od (nmc ne_od_q89 nm0)
      have hkp : kp [x] h h109 := kp_tr2 hkp hk9 (List.forall_mem_cons.mpr ⟨Or.inr nb_h_q89, List.forall_mem_nil _⟩)
      have f_md : h109 q89 = some (.inr (0, [.ref sa, .int 0])) := hq9
      have f_sa : h109 sa = some (.inl ((t 5), 100, .inr (.inr (.inr (.inr fa))))) := ha9
      refine hm_put (ci := 8) (v := .ref q89) (ty := (.object "WriteOnceDisc$Medium")) (C := R_Di) (T := F_Di) (N := 9) hx hb hts ig_Di t_Di tk_Di nm_Di hown hK hH hLo f_x rfl 3 (by decide) (hts _ mw_269) (fun _ h9 => h9) rfl (by decide +kernel) rfl rfl (Nat.le_of_ble_eq_true rfl) d_Di_init_101 (fun H113 locs hH z114 hLo => ?_)
      have hz : s.heap.size ≤ H113.size := by rw [z114]; exact hz
      obtain ⟨h115, e116⟩ : ∃ z, z = hu h109 x (.inr (8, [.ref q2, .ref q17, .ref q32, .ref q89, .null, .int 0, .int 0, .ref q59, .ref q74])) := ⟨_, rfl⟩
      have hH : hm D vwCl G h115 H113 := by rw [e116]; exact hH
      have hnd : rowP (.inr (1, [.int 0, .null, .int 1, .long 0, .int 0, .int 0, .int 0, .int 0, .int 0, .int 0, .int 1])) fs 0 30 h115 := by rw [e116]; exact rowP_put hnd (by rw [f_x]; simp)
      have hrow : rowP (.inr (6, [.int 0, .int 0, .null])) fa 0 100 h115 := by rw [e116]; exact rowP_put hrow (by rw [f_x]; simp)
      have f_wr : h115 q2 = some (.inr (7, [.ref su, .ref pg])) := by rw [e116, hu_n (Ne.symm ne_x_q2)]; exact f_wr
      have f_su : h115 su = some (.inr (4, [.int (-1), .int 0, .int 0])) := by rw [e116, hu_n (h_neC f_su f_x (by decide))]; exact f_su
      have f_pg : h115 pg = some (.inr (3, [.ref pb])) := by rw [e116, hu_n (h_neC f_pg f_x (by decide))]; exact f_pg
      have f_pb : h115 pb = some (.inl ((t 0), 2048, .inl (fun _ => 0))) := by rw [e116, hu_n (h_neA f_pb f_x)]; exact f_pb
      have f_ns : h115 q32 = some (.inr (2, [.ref sl, .ref od, .int 1, .int 1])) := by rw [e116, hu_n (Ne.symm ne_x_q32)]; exact f_ns
      have f_sl : h115 sl = some (.inl ((t 4), 30, .inr (.inr (.inr (.inr fs))))) := by rw [e116, hu_n (h_neA f_sl f_x)]; exact f_sl
      have f_od : h115 od = some (.inl ((t 4), 30, .inr (.inr (.inr (.inr g))))) := by rw [e116, hu_n (h_neA f_od f_x)]; exact f_od
      have f_md : h115 q89 = some (.inr (0, [.ref sa, .int 0])) := by rw [e116, hu_n (Ne.symm ne_x_q89)]; exact f_md
      have f_sa : h115 sa = some (.inl ((t 5), 100, .inr (.inr (.inr (.inr fa))))) := by rw [e116, hu_n (h_neA f_sa f_x)]; exact f_sa
      have f_x : h115 x = some (.inr (8, [.ref q2, .ref q17, .ref q32, .ref q89, .null, .int 0, .int 0, .ref q59, .ref q74])) := by rw [e116]; exact hu_s _ _ _
      have hkp : kp [x] h h115 := by rw [e116]; exact kp_put hkp (by simp)
      have f_md : h115 q89 = some (.inr (0, [.ref sa, .int (nI 0)])) := by rw [nI_0]; exact f_md
      rw [← hz9] at f_sa hrow
      exact W.vret hx hb hr (fun t9 ht hW => ⟨h115, rfl, ⟨hkp, q2, q17, q32, q59, q74, q89, su, pg, pb, sl, od, sa, fs, g, fa, f_x, f_wr, f_su, f_pg, f_pb, f_ns, f_sl, f_od, hgf, hnd, f_md, f_sa, hrow, ne_sl_od, by omega, by omega⟩, by rw [ht]; exact hH, by rw [ht]; exact hz⟩) hLo d_Di_init_104
    · skip
      obtain ⟨h40, h200, hv9⟩ := nsz_in hc95 hc106
      refine lv_iload_n hx hb d_Di_init_92 rfl (lv_at hl 1 rfl) ?_
      refine lv_goto (tgt := 98) hx hb d_Di_init_93 (by decide) ?_
      refine lv_topi (fun v117 e118 => ?_)
      obtain rfl : v117 = nI (nsz v) := e118.trans (hv9)
      refine hm_callv (va_runI (As := [.int (nI (nsz v))]) (b := q89) (rest := [.ref q89, .ref x]) ⟨hx, hb, hml, hown, hts⟩ (c_Medium_init l D t G ak av h93 q89 (nsz v) f_md (by omega)) ⟨cw9B 1 hts mw_266 mw_267 mw_163 rfl rfl (by decide +kernel) ⟨Nat.le_of_ble_eq_true rfl, Nat.le_of_ble_eq_true rfl⟩, rfl, hts _ mw_268⟩ (hP_S kE_ok hE hH) rfl rfl hl.1 rfl (lv_room (Nat.le_of_ble_eq_true rfl)) d_Di_init_98 ⟨Nat.le_of_ble_eq_true rfl, Nat.le_of_ble_eq_true rfl⟩) hLo (fun h119 H120 locs hp122 hH z121 hLo => ?_)
      have hz : s.heap.size ≤ H120.size := Nat.le_trans hz z121
      obtain ⟨hk9, sa, fa, hq9, ha9, hrow⟩ := hp122
      have hnd : rowP (.inr (1, [.int 0, .null, .int 1, .long 0, .int 0, .int 0, .int 0, .int 0, .int 0, .int 0, .int 1])) fs 0 30 h119 := rowP_kp hnd hk9 (List.forall_mem_cons.mpr ⟨by rw [f_md]; simp, List.forall_mem_nil _⟩)
      have f_x : h119 x = some (.inr (8, [.ref q2, .ref q17, .ref q32, .null, .null, .int 0, .int 0, .ref q59, .ref q74])) := kp_at hk9 f_x (nmc ne_x_q89 nm0)
      have f_wr : h119 q2 = some (.inr (7, [.ref su, .ref pg])) := kp_at hk9 f_wr (nmc ne_q2_q89 nm0)
      have f_su : h119 su = some (.inr (4, [.int (-1), .int 0, .int 0])) := kp_at hk9 f_su (nmc ne_su_q89 nm0)
      have f_pg : h119 pg = some (.inr (3, [.ref pb])) := kp_at hk9 f_pg (nmc ne_pg_q89 nm0)
      have f_pb : h119 pb = some (.inl ((t 0), 2048, .inl (fun _ => 0))) := kp_at hk9 f_pb (nmc ne_pb_q89 nm0)
      have f_ns : h119 q32 = some (.inr (2, [.ref sl, .ref od, .int 1, .int 1])) := kp_at hk9 f_ns (nmc ne_q32_q89 nm0)
      have f_sl : h119 sl = some (.inl ((t 4), 30, .inr (.inr (.inr (.inr fs))))) := kp_at hk9 f_sl (nmc ne_sl_q89 nm0)
      have f_od : h119 od = some (.inl ((t 4), 30, .inr (.inr (.inr (.inr g))))) := kp_at hk9 f_od (nmc ne_od_q89 nm0)
      have hkp : kp [x] h h119 := kp_tr2 hkp hk9 (List.forall_mem_cons.mpr ⟨Or.inr nb_h_q89, List.forall_mem_nil _⟩)
      have f_md : h119 q89 = some (.inr (0, [.ref sa, .int 0])) := hq9
      have f_sa : h119 sa = some (.inl ((t 5), (nsz v), .inr (.inr (.inr (.inr fa))))) := ha9
      refine hm_put (ci := 8) (v := .ref q89) (ty := (.object "WriteOnceDisc$Medium")) (C := R_Di) (T := F_Di) (N := 9) hx hb hts ig_Di t_Di tk_Di nm_Di hown hK hH hLo f_x rfl 3 (by decide) (hts _ mw_269) (fun _ h9 => h9) rfl (by decide +kernel) rfl rfl (Nat.le_of_ble_eq_true rfl) d_Di_init_101 (fun H123 locs hH z124 hLo => ?_)
      have hz : s.heap.size ≤ H123.size := by rw [z124]; exact hz
      obtain ⟨h125, e126⟩ : ∃ z, z = hu h119 x (.inr (8, [.ref q2, .ref q17, .ref q32, .ref q89, .null, .int 0, .int 0, .ref q59, .ref q74])) := ⟨_, rfl⟩
      have hH : hm D vwCl G h125 H123 := by rw [e126]; exact hH
      have hnd : rowP (.inr (1, [.int 0, .null, .int 1, .long 0, .int 0, .int 0, .int 0, .int 0, .int 0, .int 0, .int 1])) fs 0 30 h125 := by rw [e126]; exact rowP_put hnd (by rw [f_x]; simp)
      have hrow : rowP (.inr (6, [.int 0, .int 0, .null])) fa 0 (nsz v) h125 := by rw [e126]; exact rowP_put hrow (by rw [f_x]; simp)
      have f_wr : h125 q2 = some (.inr (7, [.ref su, .ref pg])) := by rw [e126, hu_n (Ne.symm ne_x_q2)]; exact f_wr
      have f_su : h125 su = some (.inr (4, [.int (-1), .int 0, .int 0])) := by rw [e126, hu_n (h_neC f_su f_x (by decide))]; exact f_su
      have f_pg : h125 pg = some (.inr (3, [.ref pb])) := by rw [e126, hu_n (h_neC f_pg f_x (by decide))]; exact f_pg
      have f_pb : h125 pb = some (.inl ((t 0), 2048, .inl (fun _ => 0))) := by rw [e126, hu_n (h_neA f_pb f_x)]; exact f_pb
      have f_ns : h125 q32 = some (.inr (2, [.ref sl, .ref od, .int 1, .int 1])) := by rw [e126, hu_n (Ne.symm ne_x_q32)]; exact f_ns
      have f_sl : h125 sl = some (.inl ((t 4), 30, .inr (.inr (.inr (.inr fs))))) := by rw [e126, hu_n (h_neA f_sl f_x)]; exact f_sl
      have f_od : h125 od = some (.inl ((t 4), 30, .inr (.inr (.inr (.inr g))))) := by rw [e126, hu_n (h_neA f_od f_x)]; exact f_od
      have f_md : h125 q89 = some (.inr (0, [.ref sa, .int 0])) := by rw [e126, hu_n (Ne.symm ne_x_q89)]; exact f_md
      have f_sa : h125 sa = some (.inl ((t 5), (nsz v), .inr (.inr (.inr (.inr fa))))) := by rw [e126, hu_n (h_neA f_sa f_x)]; exact f_sa
      have f_x : h125 x = some (.inr (8, [.ref q2, .ref q17, .ref q32, .ref q89, .null, .int 0, .int 0, .ref q59, .ref q74])) := by rw [e126]; exact hu_s _ _ _
      have hkp : kp [x] h h125 := by rw [e126]; exact kp_put hkp (by simp)
      have f_md : h125 q89 = some (.inr (0, [.ref sa, .int (nI 0)])) := by rw [nI_0]; exact f_md
      exact W.vret hx hb hr (fun t9 ht hW => ⟨h125, rfl, ⟨hkp, q2, q17, q32, q59, q74, q89, su, pg, pb, sl, od, sa, fs, g, fa, f_x, f_wr, f_su, f_pg, f_pb, f_ns, f_sl, f_od, hgf, hnd, f_md, f_sa, hrow, ne_sl_od, by omega, by omega⟩, by rw [ht]; exact hH, by rw [ht]; exact hz⟩) hLo d_Di_init_104
