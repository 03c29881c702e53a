set_option maxRecDepth 100000 in
theorem mw_325 : Cond.code y_Ns_hasOtherNamed b_Ns_hasOtherNamed 6 (some .boolean) ∈ lw_g := lw_gin (List.mem_append_right _ (List.mem_of_getElem? (i := 309) rfl)) (by decide +kernel)
set_option maxRecDepth 100000 in
theorem mw_326 : Cond.methodLink R_Di 123 y_Ns_hasOtherNamed ∈ lw_g := lw_gin (List.mem_append_right _ (List.mem_of_getElem? (i := 306) rfl)) (by decide +kernel)
set_option maxRecDepth 100000 in
theorem mw_327 : Cond.instanceMethod y_Ns_hasOtherNamed ∈ lw_g := lw_gin (List.mem_append_right _ (List.mem_of_getElem? (i := 307) rfl)) (by decide +kernel)
set_option maxRecDepth 100000 in
theorem mw_328 : Cond.selects R_Ns y_Ns_hasOtherNamed y_Ns_hasOtherNamed ∈ lw_g := lw_gin (List.mem_append_right _ (List.mem_of_getElem? (i := 308) rfl)) (by decide +kernel)
set_option maxRecDepth 100000 in
theorem mw_329 : Cond.code y_Ns_append b_Ns_append 2 (some (.object "WriteOnceDisc$Node")) ∈ lw_g := lw_gin (List.mem_append_right _ (List.mem_of_getElem? (i := 313) rfl)) (by decide +kernel)
set_option maxRecDepth 100000 in
theorem mw_330 : Cond.methodLink R_Di 230 y_Ns_append ∈ lw_g := lw_gin (List.mem_append_right _ (List.mem_of_getElem? (i := 310) rfl)) (by decide +kernel)
set_option maxRecDepth 100000 in
theorem mw_331 : Cond.instanceMethod y_Ns_append ∈ lw_g := lw_gin (List.mem_append_right _ (List.mem_of_getElem? (i := 311) rfl)) (by decide +kernel)
set_option maxRecDepth 100000 in
theorem mw_332 : Cond.selects R_Ns y_Ns_append y_Ns_append ∈ lw_g := lw_gin (List.mem_append_right _ (List.mem_of_getElem? (i := 312) rfl)) (by decide +kernel)
set_option maxRecDepth 100000 in
theorem mw_333 : Cond.code y_No_become b_No_become 5 none ∈ lw_g := lw_gin (List.mem_append_right _ (List.mem_of_getElem? (i := 317) rfl)) (by decide +kernel)
set_option maxRecDepth 100000 in
theorem mw_334 : Cond.methodLink R_Di 234 y_No_become ∈ lw_g := lw_gin (List.mem_append_right _ (List.mem_of_getElem? (i := 314) rfl)) (by decide +kernel)
set_option maxRecDepth 100000 in
theorem mw_335 : Cond.instanceMethod y_No_become ∈ lw_g := lw_gin (List.mem_append_right _ (List.mem_of_getElem? (i := 315) rfl)) (by decide +kernel)
set_option maxRecDepth 100000 in
theorem mw_336 : Cond.selects R_No y_No_become y_No_become ∈ lw_g := lw_gin (List.mem_append_right _ (List.mem_of_getElem? (i := 316) rfl)) (by decide +kernel)
set_option maxRecDepth 100000 in
theorem mw_337 : Cond.fieldLink R_Di 238 "WriteOnceDisc$Node" "number" "I" ∈ lw_g := lw_gin (List.mem_append_right _ (List.mem_of_getElem? (i := 92) rfl)) (by decide +kernel)
set_option maxRecDepth 100000 in
theorem mw_338 : Cond.code y_No_depth b_No_depth 3 (some .int) ∈ lw_g := lw_gin (List.mem_append_right _ (List.mem_of_getElem? (i := 295) rfl)) (by decide +kernel)
set_option maxRecDepth 100000 in
theorem mw_339 : Cond.methodLink R_Di 76 y_No_depth ∈ lw_g := lw_gin (List.mem_append_right _ (List.mem_of_getElem? (i := 292) rfl)) (by decide +kernel)
set_option maxRecDepth 100000 in
theorem mw_340 : Cond.instanceMethod y_No_depth ∈ lw_g := lw_gin (List.mem_append_right _ (List.mem_of_getElem? (i := 293) rfl)) (by decide +kernel)
set_option maxRecDepth 100000 in
theorem mw_341 : Cond.selects R_No y_No_depth y_No_depth ∈ lw_g := lw_gin (List.mem_append_right _ (List.mem_of_getElem? (i := 294) rfl)) (by decide +kernel)
set_option maxRecDepth 100000 in
theorem mw_342 : Cond.code y_Di_added b_Di_added 8 (some .int) ∈ lw_g := lw_gin (List.mem_append_right _ (List.mem_of_getElem? (i := 299) rfl)) (by decide +kernel)
set_option maxRecDepth 100000 in
theorem mw_343 : Cond.methodLink R_Di 82 y_Di_added ∈ lw_g := lw_gin (List.mem_append_right _ (List.mem_of_getElem? (i := 296) rfl)) (by decide +kernel)
set_option maxRecDepth 100000 in
theorem mw_344 : Cond.instanceMethod y_Di_added ∈ lw_g := lw_gin (List.mem_append_right _ (List.mem_of_getElem? (i := 298) rfl)) (by decide +kernel)
set_option maxRecDepth 100000 in
theorem mw_345 : Cond.selects R_Di y_Di_added y_Di_added ∈ lw_g := lw_gin (List.mem_append_left _ (List.mem_of_getElem? (i := 0) rfl)) (by decide +kernel)
set_option maxRecDepth 100000 in
theorem mw_346 : Cond.code y_Di_isContent b_Di_isContent 2 (some .boolean) ∈ lw_g := lw_gin (List.mem_append_right _ (List.mem_of_getElem? (i := 332) rfl)) (by decide +kernel)
set_option maxRecDepth 100000 in
theorem mw_347 : Cond.methodLink R_Di 86 y_Di_isContent ∈ lw_g := lw_gin (List.mem_append_right _ (List.mem_of_getElem? (i := 330) rfl)) (by decide +kernel)
set_option maxRecDepth 100000 in
theorem mw_348 : Cond.static y_Di_isContent ∈ lw_g := lw_gin (List.mem_append_right _ (List.mem_of_getElem? (i := 331) rfl)) (by decide +kernel)
set_option maxRecDepth 100000 in
theorem mw_349 : Cond.methodLink R_Di 93 y_No_takeContent ∈ lw_g := lw_gin (List.mem_append_right _ (List.mem_of_getElem? (i := 334) rfl)) (by decide +kernel)
theorem d_Di_added_0 : decode b_Di_added 0 = .ok (.lload_n 3, 1) := by decide +kernel
theorem d_Di_added_1 : decode b_Di_added 1 = .ok (.invokestatic 112, 3) := by decide +kernel
theorem d_Di_added_4 : decode b_Di_added 4 = .ok (.lstore 5, 2) := by decide +kernel
theorem d_Di_added_6 : decode b_Di_added 6 = .ok (.lload 5, 2) := by decide +kernel
theorem d_Di_added_8 : decode b_Di_added 8 = .ok (.lconst 0, 1) := by decide +kernel
theorem d_Di_added_9 : decode b_Di_added 9 = .ok (.lcmp, 1) := by decide +kernel
theorem d_Di_added_10 : decode b_Di_added 10 = .ok (.ifCond .ne 6, 3) := by decide +kernel
theorem d_Di_added_16 : decode b_Di_added 16 = .ok (.aload_n 0, 1) := by decide +kernel
theorem d_Di_added_17 : decode b_Di_added 17 = .ok (.getfield 26, 3) := by decide +kernel
theorem d_Di_added_20 : decode b_Di_added 20 = .ok (.aload_n 1, 1) := by decide +kernel
theorem d_Di_added_21 : decode b_Di_added 21 = .ok (.lload 5, 2) := by decide +kernel
theorem d_Di_added_23 : decode b_Di_added 23 = .ok (.aconst_null, 1) := by decide +kernel
theorem d_Di_added_24 : decode b_Di_added 24 = .ok (.invokevirtual 123, 3) := by decide +kernel
theorem d_Di_added_27 : decode b_Di_added 27 = .ok (.ifCond .eq 6, 3) := by decide +kernel
theorem d_Di_added_33 : decode b_Di_added 33 = .ok (.aload_n 0, 1) := by decide +kernel
theorem d_Di_added_34 : decode b_Di_added 34 = .ok (.getfield 26, 3) := by decide +kernel
theorem d_Di_added_37 : decode b_Di_added 37 = .ok (.invokevirtual 230, 3) := by decide +kernel
theorem d_Di_added_40 : decode b_Di_added 40 = .ok (.astore 7, 2) := by decide +kernel
theorem d_Di_added_42 : decode b_Di_added 42 = .ok (.aload 7, 2) := by decide +kernel
theorem d_Di_added_44 : decode b_Di_added 44 = .ok (.ifnonnull 6, 3) := by decide +kernel
theorem d_Di_added_50 : decode b_Di_added 50 = .ok (.aload 7, 2) := by decide +kernel
theorem d_Di_added_52 : decode b_Di_added 52 = .ok (.aload_n 1, 1) := by decide +kernel
theorem d_Di_added_53 : decode b_Di_added 53 = .ok (.iload_n 2, 1) := by decide +kernel
theorem d_Di_added_54 : decode b_Di_added 54 = .ok (.lload 5, 2) := by decide +kernel
theorem d_Di_added_56 : decode b_Di_added 56 = .ok (.invokevirtual 234, 3) := by decide +kernel
theorem d_Di_added_59 : decode b_Di_added 59 = .ok (.aload 7, 2) := by decide +kernel
theorem d_Di_added_61 : decode b_Di_added 61 = .ok (.getfield 238, 3) := by decide +kernel
theorem d_Di_added_64 : decode b_Di_added 64 = .ok (.ireturn, 1) := by decide +kernel
theorem d_Di_added_13 : decode b_Di_added 13 = .ok (.bipush (-2), 2) := by decide +kernel
theorem d_Di_added_15 : decode b_Di_added 15 = .ok (.ireturn, 1) := by decide +kernel
theorem d_Di_directory_0 : decode b_Di_directory 0 = .ok (.aload_n 0, 1) := by decide +kernel
theorem d_Di_directory_1 : decode b_Di_directory 1 = .ok (.getfield 10, 3) := by decide +kernel
theorem d_Di_directory_4 : decode b_Di_directory 4 = .ok (.getfield 60, 3) := by decide +kernel
theorem d_Di_directory_7 : decode b_Di_directory 7 = .ok (.getfield 69, 3) := by decide +kernel
theorem d_Di_directory_10 : decode b_Di_directory 10 = .ok (.ifCond .eq 6, 3) := by decide +kernel
theorem d_Di_directory_16 : decode b_Di_directory 16 = .ok (.aload_n 0, 1) := by decide +kernel
theorem d_Di_directory_17 : decode b_Di_directory 17 = .ok (.getfield 26, 3) := by decide +kernel
theorem d_Di_directory_20 : decode b_Di_directory 20 = .ok (.iload_n 1, 1) := by decide +kernel
theorem d_Di_directory_21 : decode b_Di_directory 21 = .ok (.invokevirtual 72, 3) := by decide +kernel
theorem d_Di_directory_24 : decode b_Di_directory 24 = .ok (.astore 4, 2) := by decide +kernel
theorem d_Di_directory_26 : decode b_Di_directory 26 = .ok (.aload 4, 2) := by decide +kernel
theorem d_Di_directory_28 : decode b_Di_directory 28 = .ok (.ifnull 13, 3) := by decide +kernel
theorem d_Di_directory_31 : decode b_Di_directory 31 = .ok (.aload 4, 2) := by decide +kernel
theorem d_Di_directory_33 : decode b_Di_directory 33 = .ok (.invokevirtual 76, 3) := by decide +kernel
theorem d_Di_directory_36 : decode b_Di_directory 36 = .ok (.bipush 6, 2) := by decide +kernel
theorem d_Di_directory_38 : decode b_Di_directory 38 = .ok (.if_icmp .lt 6, 3) := by decide +kernel
theorem d_Di_directory_44 : decode b_Di_directory 44 = .ok (.aload_n 0, 1) := by decide +kernel
theorem d_Di_directory_45 : decode b_Di_directory 45 = .ok (.aload 4, 2) := by decide +kernel
theorem d_Di_directory_47 : decode b_Di_directory 47 = .ok (.iconst 1, 1) := by decide +kernel
theorem d_Di_directory_48 : decode b_Di_directory 48 = .ok (.lload_n 2, 1) := by decide +kernel
theorem d_Di_directory_49 : decode b_Di_directory 49 = .ok (.invokevirtual 82, 3) := by decide +kernel
theorem d_Di_directory_52 : decode b_Di_directory 52 = .ok (.ireturn, 1) := by decide +kernel
theorem d_Di_directory_41 : decode b_Di_directory 41 = .ok (.bipush (-2), 2) := by decide +kernel
theorem d_Di_directory_43 : decode b_Di_directory 43 = .ok (.ireturn, 1) := by decide +kernel
theorem d_Di_file_0 : decode b_Di_file 0 = .ok (.aload_n 0, 1) := by decide +kernel
theorem d_Di_file_1 : decode b_Di_file 1 = .ok (.getfield 10, 3) := by decide +kernel
theorem d_Di_file_4 : decode b_Di_file 4 = .ok (.getfield 60, 3) := by decide +kernel
theorem d_Di_file_7 : decode b_Di_file 7 = .ok (.getfield 69, 3) := by decide +kernel
theorem d_Di_file_10 : decode b_Di_file 10 = .ok (.ifCond .eq 6, 3) := by decide +kernel
theorem d_Di_file_16 : decode b_Di_file 16 = .ok (.aload_n 0, 1) := by decide +kernel
theorem d_Di_file_17 : decode b_Di_file 17 = .ok (.getfield 26, 3) := by decide +kernel
theorem d_Di_file_20 : decode b_Di_file 20 = .ok (.iload_n 1, 1) := by decide +kernel
theorem d_Di_file_21 : decode b_Di_file 21 = .ok (.invokevirtual 72, 3) := by decide +kernel
theorem d_Di_file_24 : decode b_Di_file 24 = .ok (.astore 6, 2) := by decide +kernel
theorem d_Di_file_26 : decode b_Di_file 26 = .ok (.aload 6, 2) := by decide +kernel
theorem d_Di_file_28 : decode b_Di_file 28 = .ok (.ifnull 13, 3) := by decide +kernel
theorem d_Di_file_31 : decode b_Di_file 31 = .ok (.iload 4, 2) := by decide +kernel
theorem d_Di_file_33 : decode b_Di_file 33 = .ok (.iload 5, 2) := by decide +kernel
theorem d_Di_file_35 : decode b_Di_file 35 = .ok (.invokestatic 86, 3) := by decide +kernel
theorem d_Di_file_38 : decode b_Di_file 38 = .ok (.ifCond .ne 6, 3) := by decide +kernel
theorem d_Di_file_44 : decode b_Di_file 44 = .ok (.aload_n 0, 1) := by decide +kernel
theorem d_Di_file_45 : decode b_Di_file 45 = .ok (.aload 6, 2) := by decide +kernel
theorem d_Di_file_47 : decode b_Di_file 47 = .ok (.iconst 0, 1) := by decide +kernel
theorem d_Di_file_48 : decode b_Di_file 48 = .ok (.lload_n 2, 1) := by decide +kernel
theorem d_Di_file_49 : decode b_Di_file 49 = .ok (.invokevirtual 82, 3) := by decide +kernel
theorem d_Di_file_52 : decode b_Di_file 52 = .ok (.istore 7, 2) := by decide +kernel
theorem d_Di_file_54 : decode b_Di_file 54 = .ok (.aload_n 0, 1) := by decide +kernel
theorem d_Di_file_55 : decode b_Di_file 55 = .ok (.getfield 26, 3) := by decide +kernel
theorem d_Di_file_58 : decode b_Di_file 58 = .ok (.iload 7, 2) := by decide +kernel
theorem d_Di_file_60 : decode b_Di_file 60 = .ok (.invokevirtual 90, 3) := by decide +kernel
theorem d_Di_file_63 : decode b_Di_file 63 = .ok (.astore 8, 2) := by decide +kernel
theorem d_Di_file_65 : decode b_Di_file 65 = .ok (.aload 8, 2) := by decide +kernel
theorem d_Di_file_67 : decode b_Di_file 67 = .ok (.ifnull 12, 3) := by decide +kernel
theorem d_Di_file_79 : decode b_Di_file 79 = .ok (.iload 7, 2) := by decide +kernel
theorem d_Di_file_81 : decode b_Di_file 81 = .ok (.ireturn, 1) := by decide +kernel
theorem d_Di_file_70 : decode b_Di_file 70 = .ok (.aload 8, 2) := by decide +kernel
theorem d_Di_file_72 : decode b_Di_file 72 = .ok (.iload 4, 2) := by decide +kernel
theorem d_Di_file_74 : decode b_Di_file 74 = .ok (.iload 5, 2) := by decide +kernel
theorem d_Di_file_76 : decode b_Di_file 76 = .ok (.invokevirtual 93, 3) := by decide +kernel
theorem d_Di_file_41 : decode b_Di_file 41 = .ok (.bipush (-2), 2) := by decide +kernel
theorem d_Di_file_43 : decode b_Di_file 43 = .ok (.ireturn, 1) := by decide +kernel
set_option maxHeartbeats 4000000 in
set_option maxRecDepth 100000 in
theorem c_Di_added1 (l : Launch) (D : va_G) (t : Nat → ClassId) (G : hG) (ak av : Nat → Nat) (h : hM) (x wr rd ns op sr md sl od rt nd : Nat) (fs g : Nat → Option Nat) (wo : Int64) (f_x : h x = some (.inr (8, [.ref wr, .ref rd, .ref ns, .ref md, .null, .int 0, .int 0, .ref op, .ref sr]))) (f_ns : h ns = some (.inr (2, [.ref sl, .ref od, .int 1, .int 1]))) (f_sl : h sl = some (.inl ((t 4), 30, .inr (.inr (.inr (.inr fs)))))) (f_od : h od = some (.inl ((t 4), 30, .inr (.inr (.inr (.inr g)))))) (f_rt : h rt = some (.inr (1, [.int 0, .null, .int 1, .long 0, .int 0, .int 0, .int 0, .int 0, .int 0, .int 0, .int 1]))) (f_nd : h nd = some (.inr (1, [.int 0, .null, .int 1, .long 0, .int 0, .int 0, .int 0, .int 0, .int 0, .int 0, .int 1]))) (hf0 : fs 0 = some rt) (hf1 : fs 1 = some nd) (ne_rt_nd : rt ≠ nd) : Met l y_Di_added (.code y_Di_added b_Di_added 8 (some .int) :: lw_g) { frames := 2, cells := 0, slots := 0, locals := 47 } (hP (kE D t G ak av) D vwCl G h [.ref x, .ref rt, .int 1, .long wo]) (hQi D vwCl G (fun r h' => (r = -2 ∧ tlV wo = 0 ∧ h = h') ∨ (r = 1 ∧ tlV wo ≠ 0 ∧ kp [ns, nd] h h' ∧ h' ns = some (.inr (2, [.ref sl, .ref od, .int (1 + 1), .int (1 + 1)])) ∧ ∃ le : Int32, h' nd = some (.inr (1, [.int 1, .ref rt, .int 1, .long (tlV wo), .int le, .int 0, .int 0, .int 0, .int 0, .int 0, .int 1]))))) 0 0 G.P := by
  refine Met.ofW (cc := b_Di_added) (maxL := 8) (ret := (some .int)) (by decide) rfl ?_
  intro p e s m args below meth c s₁ Bd hml hv
  obtain ⟨ha, hE, hH⟩ := hv
  have hx := Bd.exec
  have hb := Bd.bytes
  have hr := Bd.returns
  have hts : ∀ w ∈ lw_g, w.before args s = true := fun w hw => atoms_spec (ws := (.code y_Di_added b_Di_added 8 (some .int) :: lw_g)) Bd.pre w (List.mem_cons_of_mem _ hw)
  have hown : s.vm.findClass R_Di = some m.cls := findClass_of_methodNamed Bd.named
  have hlocks := Bd.notSynchronized
  have hK := hE.1
  have hH0 := hH
  have hLo : hLc G.P [] := hLc_nil
  have hz : s.heap.size ≤ s.heap.size := Nat.le_refl _
  have hkp : kp [ns, nd] h h := kp_rf
  have hl := lv_entry [.ref x, .ref rt, .int 1, .long wo] (n := 8) (Nat.le_of_ble_eq_true rfl)
  rw [show entryFrame m args 8 = F0 m 0 ((lg_sl [.ref x, .ref rt, .int 1, .long wo] ++ List.replicate (8 - (lg_sl [.ref x, .ref rt, .int 1, .long wo]).length) Slot.unset).toArray) [] from (by rw [ha]; exact lg_entry_eq m [.ref x, .ref rt, .int 1, .long wo] 8)]
  generalize (lg_sl [.ref x, .ref rt, .int 1, .long wo] ++ List.replicate (8 - (lg_sl [.ref x, .ref rt, .int 1, .long wo]).length) Slot.unset).toArray = ls at hl ⊢
  have hl : lv_has ls 8 [(0, .ref x), (1, .ref rt), (2, .int 1), (3, .long wo)] := hl
  refine lv_lload_n hx hb d_Di_added_0 rfl (lv_at hl 3 rfl) ?_
  refine hm_calll (va_runS (As := [.long wo]) (rest := []) ⟨hx, hb, hml, hown, hts⟩ (c_Di_nameIn l D t G ak av h wo) ⟨cw9B 1 hts mw_322 mw_323 mw_121 rfl rfl (by decide +kernel) ⟨Nat.le_of_ble_eq_true rfl, Nat.le_of_ble_eq_true rfl⟩, hts _ mw_324⟩ (hP_S kE_ok hE hH) rfl rfl hl.1 rfl (lv_room (Nat.le_of_ble_eq_true rfl)) d_Di_added_1 ⟨Nat.le_of_ble_eq_true rfl, Nat.le_of_ble_eq_true rfl⟩) hLo (fun r1 h2 H3 locs hp5 hH z4 hLo => ?_)
  have hz : s.heap.size ≤ H3.size := Nat.le_trans hz z4
  obtain ⟨rfl, rfl⟩ := hp5
  refine lv_lstore (lv' := [(5, .long (tlV wo)), (0, .ref x), (1, .ref rt), (2, .int 1), (3, .long wo)]) hx hb d_Di_added_4 hl (by decide) rfl (fun ls hl => ?_)
  refine lv_lload hx hb d_Di_added_6 (lv_at hl 0 rfl) ?_
  refine lv_lconst (v := 0) hx hb d_Di_added_8 (by decide) ?_
  refine W.lcmp hx hb d_Di_added_9 ?_
  refine lv_if_ne (tgt := 16) hx hb d_Di_added_10 (by decide) (fun hc6 => ?_) (fun hc6 => ?_)
  · skip
    refine lv_aload_n hx hb d_Di_added_16 rfl (lv_at hl 1 rfl) ?_
    refine hm_get (ci := 8) (v := .ref ns) (C := R_Di) (T := F_Di) (N := 9) hx hb hts ig_Di hown hK hH f_x rfl 2 (by decide) (hts _ mw_258) (fun _ h9 => h9) rfl d_Di_added_17 ?_
    refine lv_aload_n hx hb d_Di_added_20 rfl (lv_at hl 2 rfl) ?_
    refine lv_lload hx hb d_Di_added_21 (lv_at hl 0 rfl) ?_
    refine lv_null hx hb d_Di_added_23 ?_
    refine hm_calli (va_runV (As := [.ref rt, .long (tlV wo), .null]) (b := ns) (rest := []) ⟨hx, hb, hml, hown, hts⟩ (c_Nodes_other l D t G ak av h ns sl od rt fs 0 1 (tlV wo) f_ns f_sl f_rt hf0) ⟨cw9B 3 hts mw_325 mw_326 mw_187 rfl rfl (by decide +kernel) ⟨Nat.le_of_ble_eq_true rfl, Nat.le_of_ble_eq_true rfl⟩, hts _ mw_327, hts _ mw_328⟩ (hP_V (q := (R_Ns, F_Ns, 4)) kE_ok hE hK hH f_ns rfl) rfl rfl hl.1 rfl (lv_room (Nat.le_of_ble_eq_true rfl)) d_Di_added_24 ⟨Nat.le_of_ble_eq_true rfl, Nat.le_of_ble_eq_true rfl⟩) hLo (fun r7 h8 H9 locs hp11 hH z10 hLo => ?_)
    have hz : s.heap.size ≤ H9.size := Nat.le_trans hz z10
    obtain ⟨rfl, rfl⟩ := hp11
    refine lv_if_eq (tgt := 33) hx hb d_Di_added_27 (by decide) (fun hc12 => ?_) (fun hc12 => absurd rfl hc12)
    refine lv_aload_n hx hb d_Di_added_33 rfl (lv_at hl 1 rfl) ?_
    refine hm_get (ci := 8) (v := .ref ns) (C := R_Di) (T := F_Di) (N := 9) hx hb hts ig_Di hown hK hH f_x rfl 2 (by decide) (hts _ mw_258) (fun _ h9 => h9) rfl d_Di_added_34 ?_
    refine hm_callr (va_runV (As := []) (b := ns) (rest := []) ⟨hx, hb, hml, hown, hts⟩ (c_Nodes_append l D t G ak av h ns sl od nd fs f_ns f_sl f_nd hf1) ⟨cw9B 0 hts mw_329 mw_330 mw_187 rfl rfl (by decide +kernel) ⟨Nat.le_of_ble_eq_true rfl, Nat.le_of_ble_eq_true rfl⟩, hts _ mw_331, hts _ mw_332⟩ (hP_V (q := (R_Ns, F_Ns, 4)) kE_ok hE hK hH f_ns rfl) rfl rfl hl.1 rfl (lv_room (Nat.le_of_ble_eq_true rfl)) d_Di_added_37 ⟨Nat.le_of_ble_eq_true rfl, Nat.le_of_ble_eq_true rfl⟩) hLo (fun r13 h14 H15 locs hp17 hH z16 hLo => ?_)
    have hz : s.heap.size ≤ H15.size := Nat.le_trans hz z16
    obtain ⟨rfl, hk9, hns9, hnd9⟩ := hp17
    have f_x : h14 x = some (.inr (8, [.ref wr, .ref rd, .ref ns, .ref md, .null, .int 0, .int 0, .ref op, .ref sr])) := kp_at hk9 f_x (nmc (h_neC f_x f_ns (by decide)) (nmc (h_neC f_x f_nd (by decide)) nm0))
    have f_sl : h14 sl = some (.inl ((t 4), 30, .inr (.inr (.inr (.inr fs))))) := kp_at hk9 f_sl (nmc (h_neA f_sl f_ns) (nmc (h_neA f_sl f_nd) nm0))
    have f_od : h14 od = some (.inl ((t 4), 30, .inr (.inr (.inr (.inr g))))) := kp_at hk9 f_od (nmc (h_neA f_od f_ns) (nmc (h_neA f_od f_nd) nm0))
    have f_rt : h14 rt = some (.inr (1, [.int 0, .null, .int 1, .long 0, .int 0, .int 0, .int 0, .int 0, .int 0, .int 0, .int 1])) := kp_at hk9 f_rt (nmc (h_neC f_rt f_ns (by decide)) (nmc ne_rt_nd nm0))
    have hkp : kp [ns, nd] h h14 := kp_tr2 hkp hk9 (List.forall_mem_cons.mpr ⟨Or.inl (by simp), List.forall_mem_cons.mpr ⟨Or.inl (by simp), List.forall_mem_nil _⟩⟩)
    have f_ns : h14 ns = some (.inr (2, [.ref sl, .ref od, .int (1 + 1), .int (1 + 1)])) := hns9
    have f_nd : h14 nd = some (.inr (1, [.int 1, .null, .int 1, .long 0, .int 0, .int 0, .int 0, .int 0, .int 0, .int 0, .int 1])) := hnd9
    refine W.eq (g2 := F0 m 40 ls [.ref nd]) rfl ?_
    refine lv_astore (lv' := [(7, .ref nd), (5, .long (tlV wo)), (0, .ref x), (1, .ref rt), (2, .int 1), (3, .long wo)]) hx hb d_Di_added_40 hl (by decide) rfl (fun ls hl => ?_)
    refine lv_aload hx hb d_Di_added_42 (lv_at hl 0 rfl) ?_
    refine lv_ifnonnull (tgt := 50) hx hb d_Di_added_44 (by decide) ?_
    refine lv_aload hx hb d_Di_added_50 (lv_at hl 0 rfl) ?_
    refine lv_aload_n hx hb d_Di_added_52 rfl (lv_at hl 3 rfl) ?_
    refine lv_iload_n hx hb d_Di_added_53 rfl (lv_at hl 4 rfl) ?_
    refine lv_lload hx hb d_Di_added_54 (lv_at hl 1 rfl) ?_
    refine hm_callv (va_runV (As := [.ref rt, .int 1, .long (tlV wo)]) (b := nd) (rest := []) ⟨hx, hb, hml, hown, hts⟩ (c_Node_become1 l D t G ak av h14 nd rt (tlV wo) f_nd) ⟨cw9B 3 hts mw_333 mw_334 mw_40 rfl rfl (by decide +kernel) ⟨Nat.le_of_ble_eq_true rfl, Nat.le_of_ble_eq_true rfl⟩, hts _ mw_335, hts _ mw_336⟩ (hP_V (q := (R_No, F_No, 11)) kE_ok hE hK hH f_nd rfl) rfl rfl hl.1 rfl (lv_room (Nat.le_of_ble_eq_true rfl)) d_Di_added_56 ⟨Nat.le_of_ble_eq_true rfl, Nat.le_of_ble_eq_true rfl⟩) hLo (fun h18 H19 locs hp21 hH z20 hLo => ?_)
    have hz : s.heap.size ≤ H19.size := Nat.le_trans hz z20
    obtain ⟨hk9, le, hn9⟩ := hp21
    have f_x : h18 x = some (.inr (8, [.ref wr, .ref rd, .ref ns, .ref md, .null, .int 0, .int 0, .ref op, .ref sr])) := kp_at hk9 f_x (nmc (h_neC f_x f_nd (by decide)) nm0)
    have f_ns : h18 ns = some (.inr (2, [.ref sl, .ref od, .int (1 + 1), .int (1 + 1)])) := kp_at hk9 f_ns (nmc (h_neC f_ns f_nd (by decide)) nm0)
    have f_sl : h18 sl = some (.inl ((t 4), 30, .inr (.inr (.inr (.inr fs))))) := kp_at hk9 f_sl (nmc (h_neA f_sl f_nd) nm0)
    have f_od : h18 od = some (.inl ((t 4), 30, .inr (.inr (.inr (.inr g))))) := kp_at hk9 f_od (nmc (h_neA f_od f_nd) nm0)
    have f_rt : h18 rt = some (.inr (1, [.int 0, .null, .int 1, .long 0, .int 0, .int 0, .int 0, .int 0, .int 0, .int 0, .int 1])) := kp_at hk9 f_rt (nmc ne_rt_nd nm0)
    have hkp : kp [ns, nd] h h18 := kp_tr2 hkp hk9 (List.forall_mem_cons.mpr ⟨Or.inl (by simp), List.forall_mem_nil _⟩)
    have f_nd : h18 nd = some (.inr (1, [.int 1, .ref rt, .int 1, .long (tlV wo), .int le, .int 0, .int 0, .int 0, .int 0, .int 0, .int 1])) := hn9
    refine lv_aload hx hb d_Di_added_59 (lv_at hl 0 rfl) ?_
    refine hm_get (ci := 1) (v := .int 1) (C := R_No) (T := F_No) (N := 11) hx hb hts ig_No hown hK hH f_nd rfl 0 (by decide) (hts _ mw_337) (fun _ h9 => h9) rfl d_Di_added_61 ?_
    exact W.iret (v := 1) hx hb hr (fun t9 ht hW => ⟨1, h18, rfl, Or.inr ⟨rfl, mt (lg_cmp_eq _ _).mpr hc6, hkp, f_ns, le, f_nd⟩, by rw [ht]; exact hH, by rw [ht]; exact hz⟩) hLo d_Di_added_64
  · skip
    refine lv_bipush (v := -2) hx hb d_Di_added_13 (by decide) ?_
    exact W.iret (v := (-2)) hx hb hr (fun t9 ht hW => ⟨(-2), h, rfl, Or.inl ⟨rfl, (lg_cmp_eq _ _).mp hc6, rfl⟩, by rw [ht]; exact hH, by rw [ht]; exact hz⟩) hLo d_Di_added_15

set_option maxHeartbeats 4000000 in
set_option maxRecDepth 100000 in
theorem c_Di_added0 (l : Launch) (D : va_G) (t : Nat → ClassId) (G : hG) (ak av : Nat → Nat) (h : hM) (x wr rd ns op sr md sl od rt nd : Nat) (fs g : Nat → Option Nat) (wo : Int64) (f_x : h x = some (.inr (8, [.ref wr, .ref rd, .ref ns, .ref md, .null, .int 0, .int 0, .ref op, .ref sr]))) (f_ns : h ns = some (.inr (2, [.ref sl, .ref od, .int 1, .int 1]))) (f_sl : h sl = some (.inl ((t 4), 30, .inr (.inr (.inr (.inr fs)))))) (f_od : h od = some (.inl ((t 4), 30, .inr (.inr (.inr (.inr g)))))) (f_rt : h rt = some (.inr (1, [.int 0, .null, .int 1, .long 0, .int 0, .int 0, .int 0, .int 0, .int 0, .int 0, .int 1]))) (f_nd : h nd = some (.inr (1, [.int 0, .null, .int 1, .long 0, .int 0, .int 0, .int 0, .int 0, .int 0, .int 0, .int 1]))) (hf0 : fs 0 = some rt) (hf1 : fs 1 = some nd) (ne_rt_nd : rt ≠ nd) : Met l y_Di_added (.code y_Di_added b_Di_added 8 (some .int) :: lw_g) { frames := 2, cells := 0, slots := 0, locals := 47 } (hP (kE D t G ak av) D vwCl G h [.ref x, .ref rt, .int 0, .long wo]) (hQi D vwCl G (fun r h' => (r = -2 ∧ tlV wo = 0 ∧ h = h') ∨ (r = 1 ∧ tlV wo ≠ 0 ∧ kp [ns, nd] h h' ∧ h' ns = some (.inr (2, [.ref sl, .ref od, .int (1 + 1), .int (1 + 1)])) ∧ ∃ le : Int32, h' nd = some (.inr (1, [.int 1, .ref rt, .int 0, .long (tlV wo), .int le, .int 0, .int 0, .int 0, .int 0, .int 0, .int 1]))))) 0 0 G.P := by
  refine Met.ofW (cc := b_Di_added) (maxL := 8) (ret := (some .int)) (by decide) rfl ?_
  intro p e s m args below meth c s₁ Bd hml hv
  obtain ⟨ha, hE, hH⟩ := hv
  have hx := Bd.exec
  have hb := Bd.bytes
  have hr := Bd.returns
  have hts : ∀ w ∈ lw_g, w.before args s = true := fun w hw => atoms_spec (ws := (.code y_Di_added b_Di_added 8 (some .int) :: lw_g)) Bd.pre w (List.mem_cons_of_mem _ hw)
  have hown : s.vm.findClass R_Di = some m.cls := findClass_of_methodNamed Bd.named
  have hlocks := Bd.notSynchronized
  have hK := hE.1
  have hH0 := hH
  have hLo : hLc G.P [] := hLc_nil
  have hz : s.heap.size ≤ s.heap.size := Nat.le_refl _
  have hkp : kp [ns, nd] h h := kp_rf
  have hl := lv_entry [.ref x, .ref rt, .int 0, .long wo] (n := 8) (Nat.le_of_ble_eq_true rfl)
  rw [show entryFrame m args 8 = F0 m 0 ((lg_sl [.ref x, .ref rt, .int 0, .long wo] ++ List.replicate (8 - (lg_sl [.ref x, .ref rt, .int 0, .long wo]).length) Slot.unset).toArray) [] from (by rw [ha]; exact lg_entry_eq m [.ref x, .ref rt, .int 0, .long wo] 8)]
  generalize (lg_sl [.ref x, .ref rt, .int 0, .long wo] ++ List.replicate (8 - (lg_sl [.ref x, .ref rt, .int 0, .long wo]).length) Slot.unset).toArray = ls at hl ⊢
  have hl : lv_has ls 8 [(0, .ref x), (1, .ref rt), (2, .int 0), (3, .long wo)] := hl
  refine lv_lload_n hx hb d_Di_added_0 rfl (lv_at hl 3 rfl) ?_
  refine hm_calll (va_runS (As := [.long wo]) (rest := []) ⟨hx, hb, hml, hown, hts⟩ (c_Di_nameIn l D t G ak av h wo) ⟨cw9B 1 hts mw_322 mw_323 mw_121 rfl rfl (by decide +kernel) ⟨Nat.le_of_ble_eq_true rfl, Nat.le_of_ble_eq_true rfl⟩, hts _ mw_324⟩ (hP_S kE_ok hE hH) rfl rfl hl.1 rfl (lv_room (Nat.le_of_ble_eq_true rfl)) d_Di_added_1 ⟨Nat.le_of_ble_eq_true rfl, Nat.le_of_ble_eq_true rfl⟩) hLo (fun r1 h2 H3 locs hp5 hH z4 hLo => ?_)
  have hz : s.heap.size ≤ H3.size := Nat.le_trans hz z4
  obtain ⟨rfl, rfl⟩ := hp5
  refine lv_lstore (lv' := [(5, .long (tlV wo)), (0, .ref x), (1, .ref rt), (2, .int 0), (3, .long wo)]) hx hb d_Di_added_4 hl (by decide) rfl (fun ls hl => ?_)
  refine lv_lload hx hb d_Di_added_6 (lv_at hl 0 rfl) ?_
  refine lv_lconst (v := 0) hx hb d_Di_added_8 (by decide) ?_
  refine W.lcmp hx hb d_Di_added_9 ?_
  refine lv_if_ne (tgt := 16) hx hb d_Di_added_10 (by decide) (fun hc6 => ?_) (fun hc6 => ?_)
  · skip
    refine lv_aload_n hx hb d_Di_added_16 rfl (lv_at hl 1 rfl) ?_
    refine hm_get (ci := 8) (v := .ref ns) (C := R_Di) (T := F_Di) (N := 9) hx hb hts ig_Di hown hK hH f_x rfl 2 (by decide) (hts _ mw_258) (fun _ h9 => h9) rfl d_Di_added_17 ?_
    refine lv_aload_n hx hb d_Di_added_20 rfl (lv_at hl 2 rfl) ?_
    refine lv_lload hx hb d_Di_added_21 (lv_at hl 0 rfl) ?_
    refine lv_null hx hb d_Di_added_23 ?_
    refine hm_calli (va_runV (As := [.ref rt, .long (tlV wo), .null]) (b := ns) (rest := []) ⟨hx, hb, hml, hown, hts⟩ (c_Nodes_other l D t G ak av h ns sl od rt fs 0 1 (tlV wo) f_ns f_sl f_rt hf0) ⟨cw9B 3 hts mw_325 mw_326 mw_187 rfl rfl (by decide +kernel) ⟨Nat.le_of_ble_eq_true rfl, Nat.le_of_ble_eq_true rfl⟩, hts _ mw_327, hts _ mw_328⟩ (hP_V (q := (R_Ns, F_Ns, 4)) kE_ok hE hK hH f_ns rfl) rfl rfl hl.1 rfl (lv_room (Nat.le_of_ble_eq_true rfl)) d_Di_added_24 ⟨Nat.le_of_ble_eq_true rfl, Nat.le_of_ble_eq_true rfl⟩) hLo (fun r7 h8 H9 locs hp11 hH z10 hLo => ?_)
    have hz : s.heap.size ≤ H9.size := Nat.le_trans hz z10
    obtain ⟨rfl, rfl⟩ := hp11
    refine lv_if_eq (tgt := 33) hx hb d_Di_added_27 (by decide) (fun hc12 => ?_) (fun hc12 => absurd rfl hc12)
    refine lv_aload_n hx hb d_Di_added_33 rfl (lv_at hl 1 rfl) ?_
    refine hm_get (ci := 8) (v := .ref ns) (C := R_Di) (T := F_Di) (N := 9) hx hb hts ig_Di hown hK hH f_x rfl 2 (by decide) (hts _ mw_258) (fun _ h9 => h9) rfl d_Di_added_34 ?_
    refine hm_callr (va_runV (As := []) (b := ns) (rest := []) ⟨hx, hb, hml, hown, hts⟩ (c_Nodes_append l D t G ak av h ns sl od nd fs f_ns f_sl f_nd hf1) ⟨cw9B 0 hts mw_329 mw_330 mw_187 rfl rfl (by decide +kernel) ⟨Nat.le_of_ble_eq_true rfl, Nat.le_of_ble_eq_true rfl⟩, hts _ mw_331, hts _ mw_332⟩ (hP_V (q := (R_Ns, F_Ns, 4)) kE_ok hE hK hH f_ns rfl) rfl rfl hl.1 rfl (lv_room (Nat.le_of_ble_eq_true rfl)) d_Di_added_37 ⟨Nat.le_of_ble_eq_true rfl, Nat.le_of_ble_eq_true rfl⟩) hLo (fun r13 h14 H15 locs hp17 hH z16 hLo => ?_)
    have hz : s.heap.size ≤ H15.size := Nat.le_trans hz z16
    obtain ⟨rfl, hk9, hns9, hnd9⟩ := hp17
    have f_x : h14 x = some (.inr (8, [.ref wr, .ref rd, .ref ns, .ref md, .null, .int 0, .int 0, .ref op, .ref sr])) := kp_at hk9 f_x (nmc (h_neC f_x f_ns (by decide)) (nmc (h_neC f_x f_nd (by decide)) nm0))
    have f_sl : h14 sl = some (.inl ((t 4), 30, .inr (.inr (.inr (.inr fs))))) := kp_at hk9 f_sl (nmc (h_neA f_sl f_ns) (nmc (h_neA f_sl f_nd) nm0))
    have f_od : h14 od = some (.inl ((t 4), 30, .inr (.inr (.inr (.inr g))))) := kp_at hk9 f_od (nmc (h_neA f_od f_ns) (nmc (h_neA f_od f_nd) nm0))
    have f_rt : h14 rt = some (.inr (1, [.int 0, .null, .int 1, .long 0, .int 0, .int 0, .int 0, .int 0, .int 0, .int 0, .int 1])) := kp_at hk9 f_rt (nmc (h_neC f_rt f_ns (by decide)) (nmc ne_rt_nd nm0))
    have hkp : kp [ns, nd] h h14 := kp_tr2 hkp hk9 (List.forall_mem_cons.mpr ⟨Or.inl (by simp), List.forall_mem_cons.mpr ⟨Or.inl (by simp), List.forall_mem_nil _⟩⟩)
    have f_ns : h14 ns = some (.inr (2, [.ref sl, .ref od, .int (1 + 1), .int (1 + 1)])) := hns9
    have f_nd : h14 nd = some (.inr (1, [.int 1, .null, .int 1, .long 0, .int 0, .int 0, .int 0, .int 0, .int 0, .int 0, .int 1])) := hnd9
    refine W.eq (g2 := F0 m 40 ls [.ref nd]) rfl ?_
    refine lv_astore (lv' := [(7, .ref nd), (5, .long (tlV wo)), (0, .ref x), (1, .ref rt), (2, .int 0), (3, .long wo)]) hx hb d_Di_added_40 hl (by decide) rfl (fun ls hl => ?_)
    refine lv_aload hx hb d_Di_added_42 (lv_at hl 0 rfl) ?_
    refine lv_ifnonnull (tgt := 50) hx hb d_Di_added_44 (by decide) ?_
    refine lv_aload hx hb d_Di_added_50 (lv_at hl 0 rfl) ?_
    refine lv_aload_n hx hb d_Di_added_52 rfl (lv_at hl 3 rfl) ?_
    refine lv_iload_n hx hb d_Di_added_53 rfl (lv_at hl 4 rfl) ?_
    refine lv_lload hx hb d_Di_added_54 (lv_at hl 1 rfl) ?_
    refine hm_callv (va_runV (As := [.ref rt, .int 0, .long (tlV wo)]) (b := nd) (rest := []) ⟨hx, hb, hml, hown, hts⟩ (c_Node_become0 l D t G ak av h14 nd rt (tlV wo) f_nd) ⟨cw9B 3 hts mw_333 mw_334 mw_40 rfl rfl (by decide +kernel) ⟨Nat.le_of_ble_eq_true rfl, Nat.le_of_ble_eq_true rfl⟩, hts _ mw_335, hts _ mw_336⟩ (hP_V (q := (R_No, F_No, 11)) kE_ok hE hK hH f_nd rfl) rfl rfl hl.1 rfl (lv_room (Nat.le_of_ble_eq_true rfl)) d_Di_added_56 ⟨Nat.le_of_ble_eq_true rfl, Nat.le_of_ble_eq_true rfl⟩) hLo (fun h18 H19 locs hp21 hH z20 hLo => ?_)
    have hz : s.heap.size ≤ H19.size := Nat.le_trans hz z20
    obtain ⟨hk9, le, hn9⟩ := hp21
    have f_x : h18 x = some (.inr (8, [.ref wr, .ref rd, .ref ns, .ref md, .null, .int 0, .int 0, .ref op, .ref sr])) := kp_at hk9 f_x (nmc (h_neC f_x f_nd (by decide)) nm0)
    have f_ns : h18 ns = some (.inr (2, [.ref sl, .ref od, .int (1 + 1), .int (1 + 1)])) := kp_at hk9 f_ns (nmc (h_neC f_ns f_nd (by decide)) nm0)
    have f_sl : h18 sl = some (.inl ((t 4), 30, .inr (.inr (.inr (.inr fs))))) := kp_at hk9 f_sl (nmc (h_neA f_sl f_nd) nm0)
    have f_od : h18 od = some (.inl ((t 4), 30, .inr (.inr (.inr (.inr g))))) := kp_at hk9 f_od (nmc (h_neA f_od f_nd) nm0)
    have f_rt : h18 rt = some (.inr (1, [.int 0, .null, .int 1, .long 0, .int 0, .int 0, .int 0, .int 0, .int 0, .int 0, .int 1])) := kp_at hk9 f_rt (nmc ne_rt_nd nm0)
    have hkp : kp [ns, nd] h h18 := kp_tr2 hkp hk9 (List.forall_mem_cons.mpr ⟨Or.inl (by simp), List.forall_mem_nil _⟩)
    have f_nd : h18 nd = some (.inr (1, [.int 1, .ref rt, .int 0, .long (tlV wo), .int le, .int 0, .int 0, .int 0, .int 0, .int 0, .int 1])) := hn9
    refine lv_aload hx hb d_Di_added_59 (lv_at hl 0 rfl) ?_
    refine hm_get (ci := 1) (v := .int 1) (C := R_No) (T := F_No) (N := 11) hx hb hts ig_No hown hK hH f_nd rfl 0 (by decide) (hts _ mw_337) (fun _ h9 => h9) rfl d_Di_added_61 ?_
    exact W.iret (v := 1) hx hb hr (fun t9 ht hW => ⟨1, h18, rfl, Or.inr ⟨rfl, mt (lg_cmp_eq _ _).mpr hc6, hkp, f_ns, le, f_nd⟩, by rw [ht]; exact hH, by rw [ht]; exact hz⟩) hLo d_Di_added_64
  · skip
    refine lv_bipush (v := -2) hx hb d_Di_added_13 (by decide) ?_
    exact W.iret (v := (-2)) hx hb hr (fun t9 ht hW => ⟨(-2), h, rfl, Or.inl ⟨rfl, (lg_cmp_eq _ _).mp hc6, rfl⟩, by rw [ht]; exact hH, by rw [ht]; exact hz⟩) hLo d_Di_added_15

set_option maxHeartbeats 4000000 in
set_option maxRecDepth 100000 in
theorem c_x_directory (l : Launch) (D : va_G) (t : Nat → ClassId) (G : hG) (ak av : Nat → Nat) (h : hM) (x n : Nat) (nu : Int32) (wo : Int64) (hX : FrX t h x n) : Met l y_Di_directory (.code y_Di_directory b_Di_directory 5 (some .int) :: lw_g) { frames := 3, cells := 0, slots := 0, locals := 74 } (hP (kE D t G ak av) D vwCl G h [.ref x, .int nu, .long wo]) (hQi D vwCl G (fun r h' => (r = -2 ∧ ¬ (nu = 0 ∧ tlV wo ≠ 0)) ∨ (r = 1 ∧ nu = 0 ∧ tlV wo ≠ 0))) 0 0 G.P := by
  refine Met.ofW (cc := b_Di_directory) (maxL := 5) (ret := (some .int)) (by decide) rfl ?_
  intro p e s m args below meth c s₁ Bd hml hv
  obtain ⟨ha, hE, hH⟩ := hv
  have hx := Bd.exec
  have hb := Bd.bytes
  have hr := Bd.returns
  have hts : ∀ w ∈ lw_g, w.before args s = true := fun w hw => atoms_spec (ws := (.code y_Di_directory b_Di_directory 5 (some .int) :: lw_g)) Bd.pre w (List.mem_cons_of_mem _ hw)
  have hown : s.vm.findClass R_Di = some m.cls := findClass_of_methodNamed Bd.named
  have hlocks := Bd.notSynchronized
  have hK := hE.1
  have hH0 := hH
  have hLo : hLc G.P [] := hLc_nil
  have hz : s.heap.size ≤ s.heap.size := Nat.le_refl _
  have hkp : kp [] h h := kp_rf
  have hl := lv_entry [.ref x, .int nu, .long wo] (n := 5) (Nat.le_of_ble_eq_true rfl)
  rw [show entryFrame m args 5 = F0 m 0 ((lg_sl [.ref x, .int nu, .long wo] ++ List.replicate (5 - (lg_sl [.ref x, .int nu, .long wo]).length) Slot.unset).toArray) [] from (by rw [ha]; exact lg_entry_eq m [.ref x, .int nu, .long wo] 5)]
  generalize (lg_sl [.ref x, .int nu, .long wo] ++ List.replicate (5 - (lg_sl [.ref x, .int nu, .long wo]).length) Slot.unset).toArray = ls at hl ⊢
  have hl : lv_has ls 5 [(0, .ref x), (1, .int nu), (2, .long wo)] := hl
  obtain ⟨wr, rd, ns, op, sr, md, su, pg, pb, sl, od, sa, fs, g, fa, f_x, f_wr, f_su, f_pg, f_pb, f_ns, f_sl, f_od, hgf, hnd, f_md, f_sa, hrow, ne_sl_od, hn40, hn⟩ := hX
  obtain ⟨rt, hf0, f_rt⟩ := hnd.2 0 (by decide) (by decide)
  obtain ⟨nd, hf1, f_nd⟩ := hnd.2 1 (by decide) (by decide)
  have ne_rt_nd : rt ≠ nd := fun q => absurd (hnd.1 0 1 (by decide) (by decide) (by rw [hf0, hf1, q])) (by decide)
  refine lv_aload_n hx hb d_Di_directory_0 rfl (lv_at hl 0 rfl) ?_
  refine hm_get (ci := 8) (v := .ref wr) (C := R_Di) (T := F_Di) (N := 9) hx hb hts ig_Di hown hK hH f_x rfl 0 (by decide) (hts _ mw_246) (fun _ h9 => h9) rfl d_Di_directory_1 ?_
  refine hm_get (ci := 7) (v := .ref su) (C := R_Wr) (T := F_Wr) (N := 2) hx hb hts ig_Wr hown hK hH f_wr rfl 0 (by decide) (hts _ mw_290) (fun _ h9 => h9) rfl d_Di_directory_4 ?_
  refine hm_get (ci := 4) (v := .int 0) (C := R_Po) (T := F_Po) (N := 3) hx hb hts ig_Po hown hK hH f_su rfl 1 (by decide) (hts _ mw_314) (fun _ h9 => h9) rfl d_Di_directory_7 ?_
  refine lv_if_eq (tgt := 16) hx hb d_Di_directory_10 (by decide) (fun hc1 => ?_) (fun hc1 => absurd rfl hc1)
  refine lv_aload_n hx hb d_Di_directory_16 rfl (lv_at hl 0 rfl) ?_
  refine hm_get (ci := 8) (v := .ref ns) (C := R_Di) (T := F_Di) (N := 9) hx hb hts ig_Di hown hK hH f_x rfl 2 (by decide) (hts _ mw_258) (fun _ h9 => h9) rfl d_Di_directory_17 ?_
  refine lv_iload_n hx hb d_Di_directory_20 rfl (lv_at hl 1 rfl) ?_
  by_cases hin : nu = 0
  · skip
    refine hm_callr (va_runV (As := [.int nu]) (b := ns) (rest := []) ⟨hx, hb, hml, hown, hts⟩ (c_Nodes_dirOf l D t G ak av h ns sl od rt fs 0 1 nu f_ns f_sl f_rt hf0) ⟨cw9B 1 hts mw_318 mw_319 mw_187 rfl rfl (by decide +kernel) ⟨Nat.le_of_ble_eq_true rfl, Nat.le_of_ble_eq_true rfl⟩, hts _ mw_320, hts _ mw_321⟩ (hP_V (q := (R_Ns, F_Ns, 4)) kE_ok hE hK hH f_ns rfl) rfl rfl hl.1 rfl (lv_room (Nat.le_of_ble_eq_true rfl)) d_Di_directory_21 ⟨Nat.le_of_ble_eq_true rfl, Nat.le_of_ble_eq_true rfl⟩) hLo (fun r2 h3 H4 locs hp6 hH z5 hLo => ?_)
    have hz : s.heap.size ≤ H4.size := Nat.le_trans hz z5
    obtain ⟨hr9, rfl⟩ := hp6
    rw [if_pos hin] at hr9
    subst hr9
    refine W.eq (g2 := F0 m 24 ls [.ref rt]) rfl ?_
    refine lv_astore (lv' := [(4, .ref rt), (0, .ref x), (1, .int nu), (2, .long wo)]) hx hb d_Di_directory_24 hl (by decide) rfl (fun ls hl => ?_)
    refine lv_aload hx hb d_Di_directory_26 (lv_at hl 0 rfl) ?_
    refine lv_ifnull hx hb d_Di_directory_28 ?_
    refine lv_aload hx hb d_Di_directory_31 (lv_at hl 0 rfl) ?_
    refine hm_calli (va_runV (As := []) (b := rt) (rest := []) ⟨hx, hb, hml, hown, hts⟩ (c_Node_depth l D t G ak av h rt 0 1 f_rt) ⟨cw9B 0 hts mw_338 mw_339 mw_40 rfl rfl (by decide +kernel) ⟨Nat.le_of_ble_eq_true rfl, Nat.le_of_ble_eq_true rfl⟩, hts _ mw_340, hts _ mw_341⟩ (hP_V (q := (R_No, F_No, 11)) kE_ok hE hK hH f_rt rfl) rfl rfl hl.1 rfl (lv_room (Nat.le_of_ble_eq_true rfl)) d_Di_directory_33 ⟨Nat.le_of_ble_eq_true rfl, Nat.le_of_ble_eq_true rfl⟩) hLo (fun r7 h8 H9 locs hp11 hH z10 hLo => ?_)
    have hz : s.heap.size ≤ H9.size := Nat.le_trans hz z10
    obtain ⟨rfl, rfl⟩ := hp11
    refine lv_bipush (v := 6) hx hb d_Di_directory_36 (by decide) ?_
    refine lv_icmp_lt (tgt := 44) hx hb d_Di_directory_38 (by decide) (fun hc12 => ?_) (fun hc12 => absurd (by decide) hc12)
    refine lv_aload_n hx hb d_Di_directory_44 rfl (lv_at hl 1 rfl) ?_
    refine lv_aload hx hb d_Di_directory_45 (lv_at hl 0 rfl) ?_
    refine lv_iconst (v := 1) hx hb d_Di_directory_47 (by decide) ?_
    refine lv_lload_n hx hb d_Di_directory_48 rfl (lv_at hl 3 rfl) ?_
    refine hm_calli (va_runV (As := [.ref rt, .int 1, .long wo]) (b := x) (rest := []) ⟨hx, hb, hml, hown, hts⟩ (c_Di_added1 l D t G ak av h x wr rd ns op sr md sl od rt nd fs g wo f_x f_ns f_sl f_od f_rt f_nd hf0 hf1 ne_rt_nd) ⟨cw9B 3 hts mw_342 mw_343 mw_121 rfl rfl (by decide +kernel) ⟨Nat.le_of_ble_eq_true rfl, Nat.le_of_ble_eq_true rfl⟩, hts _ mw_344, hts _ mw_345⟩ (hP_V (q := (R_Di, F_Di, 9)) kE_ok hE hK hH f_x rfl) rfl rfl hl.1 rfl (lv_room (Nat.le_of_ble_eq_true rfl)) d_Di_directory_49 ⟨Nat.le_of_ble_eq_true rfl, Nat.le_of_ble_eq_true rfl⟩) hLo (fun r13 h14 H15 locs hp17 hH z16 hLo => ?_)
    have hz : s.heap.size ≤ H15.size := Nat.le_trans hz z16
    exact W.iret (v := r13) hx hb hr (fun t9 ht hW => ⟨r13, h14, rfl, hp17.imp (fun q => ⟨q.1, fun z => z.2 q.2.1⟩) (fun q => ⟨q.1, hin, q.2.1⟩), by rw [ht]; exact hH, by rw [ht]; exact hz⟩) hLo d_Di_directory_52
  · skip
    refine hm_callr (va_runV (As := [.int nu]) (b := ns) (rest := []) ⟨hx, hb, hml, hown, hts⟩ (c_Nodes_dirOf l D t G ak av h ns sl od rt fs 0 1 nu f_ns f_sl f_rt hf0) ⟨cw9B 1 hts mw_318 mw_319 mw_187 rfl rfl (by decide +kernel) ⟨Nat.le_of_ble_eq_true rfl, Nat.le_of_ble_eq_true rfl⟩, hts _ mw_320, hts _ mw_321⟩ (hP_V (q := (R_Ns, F_Ns, 4)) kE_ok hE hK hH f_ns rfl) rfl rfl hl.1 rfl (lv_room (Nat.le_of_ble_eq_true rfl)) d_Di_directory_21 ⟨Nat.le_of_ble_eq_true rfl, Nat.le_of_ble_eq_true rfl⟩) hLo (fun r18 h19 H20 locs hp22 hH z21 hLo => ?_)
    have hz : s.heap.size ≤ H20.size := Nat.le_trans hz z21
    obtain ⟨hr9, rfl⟩ := hp22
    rw [if_neg hin] at hr9
    subst hr9
    refine W.eq (g2 := F0 m 24 ls [.null]) rfl ?_
    refine lv_astoreN (lv' := [(4, .null), (0, .ref x), (1, .int nu), (2, .long wo)]) hx hb d_Di_directory_24 hl (by decide) rfl (fun ls hl => ?_)
    refine lv_aloadN hx hb d_Di_directory_26 (lv_at hl 0 rfl) ?_
    refine lv_ifnullN (tgt := 41) hx hb d_Di_directory_28 (by decide) ?_
    refine lv_bipush (v := -2) hx hb d_Di_directory_41 (by decide) ?_
    exact W.iret (v := (-2)) hx hb hr (fun t9 ht hW => ⟨(-2), h, rfl, Or.inl ⟨rfl, fun q => hin q.1⟩, by rw [ht]; exact hH, by rw [ht]; exact hz⟩) hLo d_Di_directory_43

set_option maxHeartbeats 4000000 in
set_option maxRecDepth 100000 in
theorem c_Nodes_nodeOf2 (l : Launch) (D : va_G) (t : Nat → ClassId) (G : hG) (ak av : Nat → Nat) (h : hM) (ns sl od rt nd : Nat) (fs : Nat → Option Nat) (di le : Int32) (wo : Int64) (f_ns : h ns = some (.inr (2, [.ref sl, .ref od, .int (1 + 1), .int (1 + 1)]))) (f_sl : h sl = some (.inl ((t 4), 30, .inr (.inr (.inr (.inr fs)))))) (f_rt : h rt = some (.inr (1, [.int 0, .null, .int 1, .long 0, .int 0, .int 0, .int 0, .int 0, .int 0, .int 0, .int 1]))) (f_nd : h nd = some (.inr (1, [.int 1, .ref rt, .int di, .long wo, .int le, .int 0, .int 0, .int 0, .int 0, .int 0, .int 1]))) (hf0 : fs 0 = some rt) (hf1 : fs 1 = some nd) : Met l y_Ns_nodeOf (.code y_Ns_nodeOf b_Ns_nodeOf 3 (some (.object "WriteOnceDisc$Node")) :: lw_g) { frames := 0, cells := 0, slots := 0, locals := 0 } (hP (kE D t G ak av) D vwCl G h [.ref ns, .int 1]) (hQr D vwCl G (fun r h' => r = some nd ∧ h = h')) 0 0 G.P := by
  refine Met.ofW (cc := b_Ns_nodeOf) (maxL := 3) (ret := (some (.object "WriteOnceDisc$Node"))) (by decide) rfl ?_
  intro p e s m args below meth c s₁ Bd hml hv
  obtain ⟨ha, hE, hH⟩ := hv
  have hx := Bd.exec
  have hb := Bd.bytes
  have hr := Bd.returns
  have hts : ∀ w ∈ lw_g, w.before args s = true := fun w hw => atoms_spec (ws := (.code y_Ns_nodeOf b_Ns_nodeOf 3 (some (.object "WriteOnceDisc$Node")) :: lw_g)) Bd.pre w (List.mem_cons_of_mem _ hw)
  have hown : s.vm.findClass R_Ns = some m.cls := findClass_of_methodNamed Bd.named
  have hlocks := Bd.notSynchronized
  have hK := hE.1
  have hH0 := hH
  have hLo : hLc G.P [] := hLc_nil
  have hz : s.heap.size ≤ s.heap.size := Nat.le_refl _
  have hkp : kp [] h h := kp_rf
  have hl := lv_entry [.ref ns, .int 1] (n := 3) (Nat.le_of_ble_eq_true rfl)
  rw [show entryFrame m args 3 = F0 m 0 ((lg_sl [.ref ns, .int 1] ++ List.replicate (3 - (lg_sl [.ref ns, .int 1]).length) Slot.unset).toArray) [] from (by rw [ha]; exact lg_entry_eq m [.ref ns, .int 1] 3)]
  generalize (lg_sl [.ref ns, .int 1] ++ List.replicate (3 - (lg_sl [.ref ns, .int 1]).length) Slot.unset).toArray = ls at hl ⊢
  have hl : lv_has ls 3 [(0, .ref ns), (1, .int 1)] := hl
  refine lv_iconst (v := 0) hx hb d_Ns_nodeOf_0 (by decide) ?_
  refine lv_istore_n (lv' := [(2, .int 0), (0, .ref ns), (1, .int 1)]) hx hb d_Ns_nodeOf_1 rfl hl (by decide) rfl (fun ls hl => ?_)
  refine lv_iload_n hx hb d_Ns_nodeOf_2 rfl (lv_at hl 0 rfl) ?_
  refine lv_aload_n hx hb d_Ns_nodeOf_3 rfl (lv_at hl 1 rfl) ?_
  refine hm_get (ci := 2) (v := .int (1 + 1)) (C := R_Ns) (T := F_Ns) (N := 4) hx hb hts ig_Ns hown hK hH f_ns rfl 2 (by decide) (hts _ mw_37) (fun _ h9 => h9) rfl d_Ns_nodeOf_4 ?_
  refine lv_icmp_ge (tgt := 36) hx hb d_Ns_nodeOf_7 (by decide) (fun hc1 => absurd hc1 (by decide)) (fun hc1 => ?_)
  refine lv_aload_n hx hb d_Ns_nodeOf_10 rfl (lv_at hl 1 rfl) ?_
  refine hm_get (ci := 2) (v := .ref sl) (C := R_Ns) (T := F_Ns) (N := 4) hx hb hts ig_Ns hown hK hH f_ns rfl 0 (by decide) (hts _ mw_35) (fun _ h9 => h9) rfl d_Ns_nodeOf_11 ?_
  refine lv_iload_n hx hb d_Ns_nodeOf_14 rfl (lv_at hl 0 rfl) ?_
  refine hj_aald (v := .ref rt) hx hb hK hH 4 f_sl (C := R_No) rfl 0 (by decide) (by decide) (by decide) (by rw [hf0]; rfl) d_Ns_nodeOf_15 ?_
  refine hm_get (ci := 1) (v := .int 0) (C := R_No) (T := F_No) (N := 11) hx hb hts ig_No hown hK hH f_rt rfl 0 (by decide) (hts _ mw_273) (fun _ h9 => h9) rfl d_Ns_nodeOf_16 ?_
  refine lv_iload_n hx hb d_Ns_nodeOf_19 rfl (lv_at hl 2 rfl) ?_
  refine lv_icmp_ne (tgt := 30) hx hb d_Ns_nodeOf_20 (by decide) (fun hc2 => ?_) (fun hc2 => absurd hc2 (by decide))
  refine lv_iinc (v := 0 + 1) (lv' := [(2, .int (0 + 1)), (0, .ref ns), (1, .int 1)]) hx hb d_Ns_nodeOf_30 hl (k := 0) rfl (by rfl) (by decide) rfl (fun ls hl => ?_)
  refine lv_goto (tgt := 2) hx hb d_Ns_nodeOf_33 (by decide) ?_
  refine lv_iload_n hx hb d_Ns_nodeOf_2 rfl (lv_at hl 0 rfl) ?_
  refine lv_aload_n hx hb d_Ns_nodeOf_3 rfl (lv_at hl 1 rfl) ?_
  refine hm_get (ci := 2) (v := .int (1 + 1)) (C := R_Ns) (T := F_Ns) (N := 4) hx hb hts ig_Ns hown hK hH f_ns rfl 2 (by decide) (hts _ mw_37) (fun _ h9 => h9) rfl d_Ns_nodeOf_4 ?_
  refine lv_icmp_ge (tgt := 36) hx hb d_Ns_nodeOf_7 (by decide) (fun hc3 => absurd hc3 (by decide)) (fun hc3 => ?_)
  refine lv_aload_n hx hb d_Ns_nodeOf_10 rfl (lv_at hl 1 rfl) ?_
  refine hm_get (ci := 2) (v := .ref sl) (C := R_Ns) (T := F_Ns) (N := 4) hx hb hts ig_Ns hown hK hH f_ns rfl 0 (by decide) (hts _ mw_35) (fun _ h9 => h9) rfl d_Ns_nodeOf_11 ?_
  refine lv_iload_n hx hb d_Ns_nodeOf_14 rfl (lv_at hl 0 rfl) ?_
  refine hj_aald (v := .ref nd) hx hb hK hH 4 f_sl (C := R_No) rfl 1 (by decide) (by decide) (by decide) (by rw [hf1]; rfl) d_Ns_nodeOf_15 ?_
  refine hm_get (ci := 1) (v := .int 1) (C := R_No) (T := F_No) (N := 11) hx hb hts ig_No hown hK hH f_nd rfl 0 (by decide) (hts _ mw_273) (fun _ h9 => h9) rfl d_Ns_nodeOf_16 ?_
  refine lv_iload_n hx hb d_Ns_nodeOf_19 rfl (lv_at hl 2 rfl) ?_
  refine lv_icmp_ne (tgt := 30) hx hb d_Ns_nodeOf_20 (by decide) (fun hc4 => absurd rfl hc4) (fun hc4 => ?_)
  refine lv_aload_n hx hb d_Ns_nodeOf_23 rfl (lv_at hl 1 rfl) ?_
  refine hm_get (ci := 2) (v := .ref sl) (C := R_Ns) (T := F_Ns) (N := 4) hx hb hts ig_Ns hown hK hH f_ns rfl 0 (by decide) (hts _ mw_35) (fun _ h9 => h9) rfl d_Ns_nodeOf_24 ?_
  refine lv_iload_n hx hb d_Ns_nodeOf_27 rfl (lv_at hl 0 rfl) ?_
  refine hj_aald (v := .ref nd) hx hb hK hH 4 f_sl (C := R_No) rfl 1 (by decide) (by decide) (by decide) (by rw [hf1]; rfl) d_Ns_nodeOf_28 ?_
  exact W.aret (v := va_rf (some nd)) hx hb hr (Or.inl ⟨_, rfl⟩) (va_rf_or _) (fun t9 ht hW => ⟨some nd, h, rfl, ⟨rfl, rfl⟩, by rw [ht]; exact hH, by rw [ht]; exact hz⟩) hLo d_Ns_nodeOf_29

set_option maxHeartbeats 4000000 in
set_option maxRecDepth 100000 in
theorem c_x_file (l : Launch) (D : va_G) (t : Nat → ClassId) (G : hG) (ak av : Nat → Nat) (h : hM) (x n : Nat) (nu : Int32) (wo : Int64) (sz sd : Int32) (hX : FrX t h x n) : Met l y_Di_file (.code y_Di_file b_Di_file 9 (some .int) :: lw_g) { frames := 3, cells := 0, slots := 0, locals := 74 } (hP (kE D t G ak av) D vwCl G h [.ref x, .int nu, .long wo, .int sz, .int sd]) (hQi D vwCl G (fun r h' => (r = -2 ∧ ¬ (nu = 0 ∧ tlV wo ≠ 0 ∧ cntC sz sd ≠ 0)) ∨ (r = 1 ∧ nu = 0 ∧ tlV wo ≠ 0 ∧ cntC sz sd ≠ 0))) 0 0 G.P := by
  refine Met.ofW (cc := b_Di_file) (maxL := 9) (ret := (some .int)) (by decide) rfl ?_
  intro p e s m args below meth c s₁ Bd hml hv
  obtain ⟨ha, hE, hH⟩ := hv
  have hx := Bd.exec
  have hb := Bd.bytes
  have hr := Bd.returns
  have hts : ∀ w ∈ lw_g, w.before args s = true := fun w hw => atoms_spec (ws := (.code y_Di_file b_Di_file 9 (some .int) :: lw_g)) Bd.pre w (List.mem_cons_of_mem _ hw)
  have hown : s.vm.findClass R_Di = some m.cls := findClass_of_methodNamed Bd.named
  have hlocks := Bd.notSynchronized
  have hK := hE.1
  have hH0 := hH
  have hLo : hLc G.P [] := hLc_nil
  have hz : s.heap.size ≤ s.heap.size := Nat.le_refl _
  have hkp : kp [] h h := kp_rf
  have hl := lv_entry [.ref x, .int nu, .long wo, .int sz, .int sd] (n := 9) (Nat.le_of_ble_eq_true rfl)
  rw [show entryFrame m args 9 = F0 m 0 ((lg_sl [.ref x, .int nu, .long wo, .int sz, .int sd] ++ List.replicate (9 - (lg_sl [.ref x, .int nu, .long wo, .int sz, .int sd]).length) Slot.unset).toArray) [] from (by rw [ha]; exact lg_entry_eq m [.ref x, .int nu, .long wo, .int sz, .int sd] 9)]
  generalize (lg_sl [.ref x, .int nu, .long wo, .int sz, .int sd] ++ List.replicate (9 - (lg_sl [.ref x, .int nu, .long wo, .int sz, .int sd]).length) Slot.unset).toArray = ls at hl ⊢
  have hl : lv_has ls 9 [(0, .ref x), (1, .int nu), (2, .long wo), (4, .int sz), (5, .int sd)] := hl
  obtain ⟨wr, rd, ns, op, sr, md, su, pg, pb, sl, od, sa, fs, g, fa, f_x, f_wr, f_su, f_pg, f_pb, f_ns, f_sl, f_od, hgf, hnd, f_md, f_sa, hrow, ne_sl_od, hn40, hn⟩ := hX
  obtain ⟨rt, hf0, f_rt⟩ := hnd.2 0 (by decide) (by decide)
  obtain ⟨nd, hf1, f_nd⟩ := hnd.2 1 (by decide) (by decide)
  have ne_rt_nd : rt ≠ nd := fun q => absurd (hnd.1 0 1 (by decide) (by decide) (by rw [hf0, hf1, q])) (by decide)
  refine lv_aload_n hx hb d_Di_file_0 rfl (lv_at hl 0 rfl) ?_
  refine hm_get (ci := 8) (v := .ref wr) (C := R_Di) (T := F_Di) (N := 9) hx hb hts ig_Di hown hK hH f_x rfl 0 (by decide) (hts _ mw_246) (fun _ h9 => h9) rfl d_Di_file_1 ?_
  refine hm_get (ci := 7) (v := .ref su) (C := R_Wr) (T := F_Wr) (N := 2) hx hb hts ig_Wr hown hK hH f_wr rfl 0 (by decide) (hts _ mw_290) (fun _ h9 => h9) rfl d_Di_file_4 ?_
  refine hm_get (ci := 4) (v := .int 0) (C := R_Po) (T := F_Po) (N := 3) hx hb hts ig_Po hown hK hH f_su rfl 1 (by decide) (hts _ mw_314) (fun _ h9 => h9) rfl d_Di_file_7 ?_
  refine lv_if_eq (tgt := 16) hx hb d_Di_file_10 (by decide) (fun hc1 => ?_) (fun hc1 => absurd rfl hc1)
  refine lv_aload_n hx hb d_Di_file_16 rfl (lv_at hl 0 rfl) ?_
  refine hm_get (ci := 8) (v := .ref ns) (C := R_Di) (T := F_Di) (N := 9) hx hb hts ig_Di hown hK hH f_x rfl 2 (by decide) (hts _ mw_258) (fun _ h9 => h9) rfl d_Di_file_17 ?_
  refine lv_iload_n hx hb d_Di_file_20 rfl (lv_at hl 1 rfl) ?_
  by_cases hin : nu = 0
  · skip
    refine hm_callr (va_runV (As := [.int nu]) (b := ns) (rest := []) ⟨hx, hb, hml, hown, hts⟩ (c_Nodes_dirOf l D t G ak av h ns sl od rt fs 0 1 nu f_ns f_sl f_rt hf0) ⟨cw9B 1 hts mw_318 mw_319 mw_187 rfl rfl (by decide +kernel) ⟨Nat.le_of_ble_eq_true rfl, Nat.le_of_ble_eq_true rfl⟩, hts _ mw_320, hts _ mw_321⟩ (hP_V (q := (R_Ns, F_Ns, 4)) kE_ok hE hK hH f_ns rfl) rfl rfl hl.1 rfl (lv_room (Nat.le_of_ble_eq_true rfl)) d_Di_file_21 ⟨Nat.le_of_ble_eq_true rfl, Nat.le_of_ble_eq_true rfl⟩) hLo (fun r2 h3 H4 locs hp6 hH z5 hLo => ?_)
    have hz : s.heap.size ≤ H4.size := Nat.le_trans hz z5
    obtain ⟨hr9, rfl⟩ := hp6
    rw [if_pos hin] at hr9
    subst hr9
    refine W.eq (g2 := F0 m 24 ls [.ref rt]) rfl ?_
    refine lv_astore (lv' := [(6, .ref rt), (0, .ref x), (1, .int nu), (2, .long wo), (4, .int sz), (5, .int sd)]) hx hb d_Di_file_24 hl (by decide) rfl (fun ls hl => ?_)
    refine lv_aload hx hb d_Di_file_26 (lv_at hl 0 rfl) ?_
    refine lv_ifnull hx hb d_Di_file_28 ?_
    refine lv_iload hx hb d_Di_file_31 (lv_at hl 4 rfl) ?_
    refine lv_iload hx hb d_Di_file_33 (lv_at hl 5 rfl) ?_
    refine hm_calli (va_runS (As := [.int sz, .int sd]) (rest := []) ⟨hx, hb, hml, hown, hts⟩ (c_Di_isContent l D t G ak av h sz sd) ⟨cw9B 2 hts mw_346 mw_347 mw_121 rfl rfl (by decide +kernel) ⟨Nat.le_of_ble_eq_true rfl, Nat.le_of_ble_eq_true rfl⟩, hts _ mw_348⟩ (hP_S kE_ok hE hH) rfl rfl hl.1 rfl (lv_room (Nat.le_of_ble_eq_true rfl)) d_Di_file_35 ⟨Nat.le_of_ble_eq_true rfl, Nat.le_of_ble_eq_true rfl⟩) hLo (fun r7 h8 H9 locs hp11 hH z10 hLo => ?_)
    have hz : s.heap.size ≤ H9.size := Nat.le_trans hz z10
    obtain ⟨rfl, rfl⟩ := hp11
    refine lv_if_ne (tgt := 44) hx hb d_Di_file_38 (by decide) (fun hc12 => ?_) (fun hc12 => ?_)
    · skip
      refine lv_aload_n hx hb d_Di_file_44 rfl (lv_at hl 1 rfl) ?_
      refine lv_aload hx hb d_Di_file_45 (lv_at hl 0 rfl) ?_
      refine lv_iconst (v := 0) hx hb d_Di_file_47 (by decide) ?_
      refine lv_lload_n hx hb d_Di_file_48 rfl (lv_at hl 3 rfl) ?_
      refine hm_calli (va_runV (As := [.ref rt, .int 0, .long wo]) (b := x) (rest := []) ⟨hx, hb, hml, hown, hts⟩ (c_Di_added0 l D t G ak av h x wr rd ns op sr md sl od rt nd fs g wo f_x f_ns f_sl f_od f_rt f_nd hf0 hf1 ne_rt_nd) ⟨cw9B 3 hts mw_342 mw_343 mw_121 rfl rfl (by decide +kernel) ⟨Nat.le_of_ble_eq_true rfl, Nat.le_of_ble_eq_true rfl⟩, hts _ mw_344, hts _ mw_345⟩ (hP_V (q := (R_Di, F_Di, 9)) kE_ok hE hK hH f_x rfl) rfl rfl hl.1 rfl (lv_room (Nat.le_of_ble_eq_true rfl)) d_Di_file_49 ⟨Nat.le_of_ble_eq_true rfl, Nat.le_of_ble_eq_true rfl⟩) hLo (fun r13 h14 H15 locs hp17 hH z16 hLo => ?_)
      have hz : s.heap.size ≤ H15.size := Nat.le_trans hz z16
      rcases hp17 with ⟨rfl, hw9, hh9⟩ | ⟨rfl, hw9, hk9, hns9, le, hnd9⟩
      · skip
        subst hh9
        refine lv_istore (lv' := [(7, .int (-2)), (6, .ref rt), (0, .ref x), (1, .int nu), (2, .long wo), (4, .int sz), (5, .int sd)]) hx hb d_Di_file_52 hl (by decide) rfl (fun ls hl => ?_)
        refine lv_aload_n hx hb d_Di_file_54 rfl (lv_at hl 2 rfl) ?_
        refine hm_get (ci := 8) (v := .ref ns) (C := R_Di) (T := F_Di) (N := 9) hx hb hts ig_Di hown hK hH f_x rfl 2 (by decide) (hts _ mw_258) (fun _ h9 => h9) rfl d_Di_file_55 ?_
        refine lv_iload hx hb d_Di_file_58 (lv_at hl 0 rfl) ?_
        have hin9 : ¬ (-2 : Int32) = 0 := by decide
        refine hm_callr (va_runV (As := [.int (-2)]) (b := ns) (rest := []) ⟨hx, hb, hml, hown, hts⟩ (c_Nodes_nodeOf l D t G ak av h ns sl od rt fs 0 1 (-2) f_ns f_sl f_rt hf0) ⟨cw9B 1 hts mw_274 mw_315 mw_187 rfl rfl (by decide +kernel) ⟨Nat.le_of_ble_eq_true rfl, Nat.le_of_ble_eq_true rfl⟩, hts _ mw_276, hts _ mw_277⟩ (hP_V (q := (R_Ns, F_Ns, 4)) kE_ok hE hK hH f_ns rfl) rfl rfl hl.1 rfl (lv_room (Nat.le_of_ble_eq_true rfl)) d_Di_file_60 ⟨Nat.le_of_ble_eq_true rfl, Nat.le_of_ble_eq_true rfl⟩) hLo (fun r18 h19 H20 locs hp22 hH z21 hLo => ?_)
        have hz : s.heap.size ≤ H20.size := Nat.le_trans hz z21
        obtain ⟨hr9, rfl⟩ := hp22
        rw [if_neg hin9] at hr9
        subst hr9
        refine W.eq (g2 := F0 m 63 ls [.null]) rfl ?_
        refine lv_astoreN (lv' := [(8, .null), (7, .int (-2)), (6, .ref rt), (0, .ref x), (1, .int nu), (2, .long wo), (4, .int sz), (5, .int sd)]) hx hb d_Di_file_63 hl (by decide) rfl (fun ls hl => ?_)
        refine lv_aloadN hx hb d_Di_file_65 (lv_at hl 0 rfl) ?_
        refine lv_ifnullN (tgt := 79) hx hb d_Di_file_67 (by decide) ?_
        refine lv_iload hx hb d_Di_file_79 (lv_at hl 1 rfl) ?_
        exact W.iret (v := (-2)) hx hb hr (fun t9 ht hW => ⟨(-2), h, rfl, Or.inl ⟨rfl, fun q => q.2.1 hw9⟩, by rw [ht]; exact hH, by rw [ht]; exact hz⟩) hLo d_Di_file_81
      · skip
        have f_x : h14 x = some (.inr (8, [.ref wr, .ref rd, .ref ns, .ref md, .null, .int 0, .int 0, .ref op, .ref sr])) := kp_at hk9 f_x (nmc (h_neC f_x f_ns (by decide)) (nmc (h_neC f_x f_nd (by decide)) nm0))
        have f_wr : h14 wr = some (.inr (7, [.ref su, .ref pg])) := kp_at hk9 f_wr (nmc (h_neC f_wr f_ns (by decide)) (nmc (h_neC f_wr f_nd (by decide)) nm0))
        have f_su : h14 su = some (.inr (4, [.int (-1), .int 0, .int 0])) := kp_at hk9 f_su (nmc (h_neC f_su f_ns (by decide)) (nmc (h_neC f_su f_nd (by decide)) nm0))
        have f_pg : h14 pg = some (.inr (3, [.ref pb])) := kp_at hk9 f_pg (nmc (h_neC f_pg f_ns (by decide)) (nmc (h_neC f_pg f_nd (by decide)) nm0))
        have f_pb : h14 pb = some (.inl ((t 0), 2048, .inl (fun _ => 0))) := kp_at hk9 f_pb (nmc (h_neA f_pb f_ns) (nmc (h_neA f_pb f_nd) nm0))
        have f_sl : h14 sl = some (.inl ((t 4), 30, .inr (.inr (.inr (.inr fs))))) := kp_at hk9 f_sl (nmc (h_neA f_sl f_ns) (nmc (h_neA f_sl f_nd) nm0))
        have f_od : h14 od = some (.inl ((t 4), 30, .inr (.inr (.inr (.inr g))))) := kp_at hk9 f_od (nmc (h_neA f_od f_ns) (nmc (h_neA f_od f_nd) nm0))
        have f_md : h14 md = some (.inr (0, [.ref sa, .int (nI 0)])) := kp_at hk9 f_md (nmc (h_neC f_md f_ns (by decide)) (nmc (h_neC f_md f_nd (by decide)) nm0))
        have f_sa : h14 sa = some (.inl ((t 5), n, .inr (.inr (.inr (.inr fa))))) := kp_at hk9 f_sa (nmc (h_neA f_sa f_ns) (nmc (h_neA f_sa f_nd) nm0))
        have f_rt : h14 rt = some (.inr (1, [.int 0, .null, .int 1, .long 0, .int 0, .int 0, .int 0, .int 0, .int 0, .int 0, .int 1])) := kp_at hk9 f_rt (nmc (h_neC f_rt f_ns (by decide)) (nmc ne_rt_nd nm0))
        have f_ns : h14 ns = some (.inr (2, [.ref sl, .ref od, .int (1 + 1), .int (1 + 1)])) := hns9
        have f_nd : h14 nd = some (.inr (1, [.int 1, .ref rt, .int 0, .long (tlV wo), .int le, .int 0, .int 0, .int 0, .int 0, .int 0, .int 1])) := hnd9
        refine lv_istore (lv' := [(7, .int 1), (6, .ref rt), (0, .ref x), (1, .int nu), (2, .long wo), (4, .int sz), (5, .int sd)]) hx hb d_Di_file_52 hl (by decide) rfl (fun ls hl => ?_)
        refine lv_aload_n hx hb d_Di_file_54 rfl (lv_at hl 2 rfl) ?_
        refine hm_get (ci := 8) (v := .ref ns) (C := R_Di) (T := F_Di) (N := 9) hx hb hts ig_Di hown hK hH f_x rfl 2 (by decide) (hts _ mw_258) (fun _ h9 => h9) rfl d_Di_file_55 ?_
        refine lv_iload hx hb d_Di_file_58 (lv_at hl 0 rfl) ?_
        refine hm_callr (va_runV (As := [.int 1]) (b := ns) (rest := []) ⟨hx, hb, hml, hown, hts⟩ (c_Nodes_nodeOf2 l D t G ak av h14 ns sl od rt nd fs 0 le (tlV wo) f_ns f_sl f_rt f_nd hf0 hf1) ⟨cw9B 1 hts mw_274 mw_315 mw_187 rfl rfl (by decide +kernel) ⟨Nat.le_of_ble_eq_true rfl, Nat.le_of_ble_eq_true rfl⟩, hts _ mw_276, hts _ mw_277⟩ (hP_V (q := (R_Ns, F_Ns, 4)) kE_ok hE hK hH f_ns rfl) rfl rfl hl.1 rfl (lv_room (Nat.le_of_ble_eq_true rfl)) d_Di_file_60 ⟨Nat.le_of_ble_eq_true rfl, Nat.le_of_ble_eq_true rfl⟩) hLo (fun r23 h24 H25 locs hp27 hH z26 hLo => ?_)
        have hz : s.heap.size ≤ H25.size := Nat.le_trans hz z26
        obtain ⟨rfl, rfl⟩ := hp27
        refine W.eq (g2 := F0 m 63 ls [.ref nd]) rfl ?_
        refine lv_astore (lv' := [(8, .ref nd), (7, .int 1), (6, .ref rt), (0, .ref x), (1, .int nu), (2, .long wo), (4, .int sz), (5, .int sd)]) hx hb d_Di_file_63 hl (by decide) rfl (fun ls hl => ?_)
        refine lv_aload hx hb d_Di_file_65 (lv_at hl 0 rfl) ?_
        refine lv_ifnull hx hb d_Di_file_67 ?_
        refine lv_aload hx hb d_Di_file_70 (lv_at hl 0 rfl) ?_
        refine lv_iload hx hb d_Di_file_72 (lv_at hl 6 rfl) ?_
        refine lv_iload hx hb d_Di_file_74 (lv_at hl 7 rfl) ?_
        refine hm_callv (va_runV (As := [.int sz, .int sd]) (b := nd) (rest := []) ⟨hx, hb, hml, hown, hts⟩ (c_Node_takeContent l D t G ak av h14 nd rt 0 le sz sd (tlV wo) f_nd) ⟨cw9B 2 hts mw_282 mw_349 mw_40 rfl rfl (by decide +kernel) ⟨Nat.le_of_ble_eq_true rfl, Nat.le_of_ble_eq_true rfl⟩, hts _ mw_284, hts _ mw_285⟩ (hP_V (q := (R_No, F_No, 11)) kE_ok hE hK hH f_nd rfl) rfl rfl hl.1 rfl (lv_room (Nat.le_of_ble_eq_true rfl)) d_Di_file_76 ⟨Nat.le_of_ble_eq_true rfl, Nat.le_of_ble_eq_true rfl⟩) hLo (fun h28 H29 locs hp31 hH z30 hLo => ?_)
        have hz : s.heap.size ≤ H29.size := Nat.le_trans hz z30
        refine lv_iload hx hb d_Di_file_79 (lv_at hl 1 rfl) ?_
        exact W.iret (v := 1) hx hb hr (fun t9 ht hW => ⟨1, h28, rfl, Or.inr ⟨rfl, hin, hw9, hc12⟩, by rw [ht]; exact hH, by rw [ht]; exact hz⟩) hLo d_Di_file_81
    · skip
      refine lv_bipush (v := -2) hx hb d_Di_file_41 (by decide) ?_
      exact W.iret (v := (-2)) hx hb hr (fun t9 ht hW => ⟨(-2), h, rfl, Or.inl ⟨rfl, fun q => q.2.2 hc12⟩, by rw [ht]; exact hH, by rw [ht]; exact hz⟩) hLo d_Di_file_43
  · skip
    refine hm_callr (va_runV (As := [.int nu]) (b := ns) (rest := []) ⟨hx, hb, hml, hown, hts⟩ (c_Nodes_dirOf l D t G ak av h ns sl od rt fs 0 1 nu f_ns f_sl f_rt hf0) ⟨cw9B 1 hts mw_318 mw_319 mw_187 rfl rfl (by decide +kernel) ⟨Nat.le_of_ble_eq_true rfl, Nat.le_of_ble_eq_true rfl⟩, hts _ mw_320, hts _ mw_321⟩ (hP_V (q := (R_Ns, F_Ns, 4)) kE_ok hE hK hH f_ns rfl) rfl rfl hl.1 rfl (lv_room (Nat.le_of_ble_eq_true rfl)) d_Di_file_21 ⟨Nat.le_of_ble_eq_true rfl, Nat.le_of_ble_eq_true rfl⟩) hLo (fun r32 h33 H34 locs hp36 hH z35 hLo => ?_)
    have hz : s.heap.size ≤ H34.size := Nat.le_trans hz z35
    obtain ⟨hr9, rfl⟩ := hp36
    rw [if_neg hin] at hr9
    subst hr9
    refine W.eq (g2 := F0 m 24 ls [.null]) rfl ?_
    refine lv_astoreN (lv' := [(6, .null), (0, .ref x), (1, .int nu), (2, .long wo), (4, .int sz), (5, .int sd)]) hx hb d_Di_file_24 hl (by decide) rfl (fun ls hl => ?_)
    refine lv_aloadN hx hb d_Di_file_26 (lv_at hl 0 rfl) ?_
    refine lv_ifnullN (tgt := 41) hx hb d_Di_file_28 (by decide) ?_
    refine lv_bipush (v := -2) hx hb d_Di_file_41 (by decide) ?_
    exact W.iret (v := (-2)) hx hb hr (fun t9 ht hW => ⟨(-2), h, rfl, Or.inl ⟨rfl, fun q => hin q.1⟩, by rw [ht]; exact hH, by rw [ht]; exact hz⟩) hLo d_Di_file_43
