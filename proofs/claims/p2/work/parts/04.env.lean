/-! the tables: array classes, nest links, arrays of references -/
abbrev tyG (t : Nat → ClassId) : List (ClassId × FieldType) := [(t 0, .byte), (t 1, .boolean), (t 2, .int), (t 3, .long), (t 4, .object "WriteOnceDisc$Node"), (t 5, .object "WriteOnceDisc$Sector")]
def nFl : List (String × Nat × String × String × String × String) := []
def nMl : List (String × Nat × MethodName × String) := [(R_Di, 9, y_Wr_init, "WriteOnceDisc"), (R_Wr, 11, y_Po_init, "WriteOnceDisc"), (R_Di, 18, y_Re_init, "WriteOnceDisc"), (R_Re, 22, y_No_init, "WriteOnceDisc"), (R_Ns, 27, y_No_init, "WriteOnceDisc"), (R_Me, 21, y_Se_init, "WriteOnceDisc"), (R_Wr, 63, y_Di_sectorsFor, "WriteOnceDisc"), (R_Pg, 121, y_Di_evened, "WriteOnceDisc"), (R_Re, 148, y_Di_evened, "WriteOnceDisc"), (R_Re, 168, y_Di_sectorsFor, "WriteOnceDisc"), (R_Re, 161, y_Di_isNameByte, "WriteOnceDisc"), (R_No, 60, y_Di_sectorsFor, "WriteOnceDisc")]
theorem nM_0 : (R_Di, 9, y_Wr_init, "WriteOnceDisc") ∈ nMl := List.mem_of_getElem? (i := 0) rfl
theorem nM_1 : (R_Wr, 11, y_Po_init, "WriteOnceDisc") ∈ nMl := List.mem_of_getElem? (i := 1) rfl
theorem nM_2 : (R_Di, 18, y_Re_init, "WriteOnceDisc") ∈ nMl := List.mem_of_getElem? (i := 2) rfl
theorem nM_3 : (R_Re, 22, y_No_init, "WriteOnceDisc") ∈ nMl := List.mem_of_getElem? (i := 3) rfl
theorem nM_4 : (R_Ns, 27, y_No_init, "WriteOnceDisc") ∈ nMl := List.mem_of_getElem? (i := 4) rfl
theorem nM_5 : (R_Me, 21, y_Se_init, "WriteOnceDisc") ∈ nMl := List.mem_of_getElem? (i := 5) rfl
theorem nM_6 : (R_Wr, 63, y_Di_sectorsFor, "WriteOnceDisc") ∈ nMl := List.mem_of_getElem? (i := 6) rfl
theorem nM_7 : (R_Pg, 121, y_Di_evened, "WriteOnceDisc") ∈ nMl := List.mem_of_getElem? (i := 7) rfl
theorem nM_8 : (R_Re, 148, y_Di_evened, "WriteOnceDisc") ∈ nMl := List.mem_of_getElem? (i := 8) rfl
theorem nM_9 : (R_Re, 168, y_Di_sectorsFor, "WriteOnceDisc") ∈ nMl := List.mem_of_getElem? (i := 9) rfl
theorem nM_10 : (R_Re, 161, y_Di_isNameByte, "WriteOnceDisc") ∈ nMl := List.mem_of_getElem? (i := 10) rfl
theorem nM_11 : (R_No, 60, y_Di_sectorsFor, "WriteOnceDisc") ∈ nMl := List.mem_of_getElem? (i := 11) rfl
def kA (G : hG) : Nat → Prop := G.P
def sLen : List Nat := [5, 4, 3]
def sByt : List (List Int32) := [[67, 68, 48, 48, 49], [77, 65, 82, 75], [46, 59, 49]]
/-- the literals that a page writes, and two statics of the JDK: they lie in the old heap -/
def kS (G : hG) (ak av : Nat → Nat) (U : State) : Prop := vk_S 3 sLen sByt ak av (kA G) U G.H ∧ vk_R R_Pg 38 "CD001" (ak 0) U ∧ vk_R R_Pg 44 "MARK" (ak 1) U ∧ vk_R R_Me 79 "MARK" (ak 1) U ∧ vk_R R_Re 85 "CD001" (ak 0) U ∧ vk_R R_No 64 ".;1" (ak 2) U ∧ vk_R R_Re 154 ".;1" (ak 2) U ∧ va_Z R_St "COMPACT_STRINGS" "Z" (.int 1) (kA G) U G.H ∧ va_Zq R_Pr "SIOOBE_FORMATTER" "Ljava/util/function/BiFunction;" (kA G) U G.H ∧ va_Zq "java/lang/Throwable" "UNASSIGNED_STACK" "[Ljava/lang/StackTraceElement;" (kA G) U G.H ∧ va_Zq "java/lang/Throwable" "SUPPRESSED_SENTINEL" "Ljava/util/List;" (kA G) U G.H
def kE (D : va_G) (t : Nat → ClassId) (G : hG) (ak av : Nat → Nat) (U : State) : Prop :=
  va_K D vwCl (tyG t) U ∧ (∀ q ∈ nFl, va_Nw (.fieldLinkNest q.1 q.2.1 q.2.2.1 q.2.2.2.1 q.2.2.2.2.1 q.2.2.2.2.2) U) ∧ (∀ q ∈ nMl, va_Nw (.methodLinkNest q.1 q.2.1 q.2.2.1 q.2.2.2) U) ∧ (∀ C ∈ (["WriteOnceDisc$Node", "WriteOnceDisc$Sector"] : List String), va_AO C U) ∧ kS G ak av U
theorem kE_ok {D : va_G} {t : Nat → ClassId} {G : hG} {ak av : Nat → Nat} : hKok (kE D t G ak av) :=
  ⟨fun U g mk a k => ⟨va_K.moved (u := U) (U := U.calling g mk a) (Vm.Alike.refl U.vm) k.1, fun q hq => va_Nw.same (u := U) rfl rfl (k.2.1 q hq), fun q hq => va_Nw.same (u := U) rfl rfl (k.2.2.1 q hq), fun C hC => va_AO.moved (u := U) (Vm.Alike.refl U.vm) (k.2.2.2.1 C hC), vk_S.moved (u := U) (Vm.Alike.refl U.vm) k.2.2.2.2.1, vk_R.same (u := U) rfl k.2.2.2.2.2.1, vk_R.same (u := U) rfl k.2.2.2.2.2.2.1, vk_R.same (u := U) rfl k.2.2.2.2.2.2.2.1, vk_R.same (u := U) rfl k.2.2.2.2.2.2.2.2.1, vk_R.same (u := U) rfl k.2.2.2.2.2.2.2.2.2.1, vk_R.same (u := U) rfl k.2.2.2.2.2.2.2.2.2.2.1, va_Z.moved (u := U) (Vm.Alike.refl U.vm) k.2.2.2.2.2.2.2.2.2.2.2.1, va_Zq.moved (u := U) (Vm.Alike.refl U.vm) k.2.2.2.2.2.2.2.2.2.2.2.2.1, va_Zq.moved (u := U) (Vm.Alike.refl U.vm) k.2.2.2.2.2.2.2.2.2.2.2.2.2.1, va_Zq.moved (u := U) (Vm.Alike.refl U.vm) k.2.2.2.2.2.2.2.2.2.2.2.2.2.2⟩,
   fun s U hW k => ⟨va_K.moved hW.alike k.1, fun q hq => va_Nw.warmF hW (k.2.1 q hq), fun q hq => va_Nw.warmM hW (k.2.2.1 q hq), fun C hC => va_AO.moved hW.alike (k.2.2.2.1 C hC), vk_S.moved hW.alike k.2.2.2.2.1, vk_R.warm hW k.2.2.2.2.2.1, vk_R.warm hW k.2.2.2.2.2.2.1, vk_R.warm hW k.2.2.2.2.2.2.2.1, vk_R.warm hW k.2.2.2.2.2.2.2.2.1, vk_R.warm hW k.2.2.2.2.2.2.2.2.2.1, vk_R.warm hW k.2.2.2.2.2.2.2.2.2.2.1, va_Z.moved hW.alike k.2.2.2.2.2.2.2.2.2.2.2.1, va_Zq.moved hW.alike k.2.2.2.2.2.2.2.2.2.2.2.2.1, va_Zq.moved hW.alike k.2.2.2.2.2.2.2.2.2.2.2.2.2.1, va_Zq.moved hW.alike k.2.2.2.2.2.2.2.2.2.2.2.2.2.2⟩⟩
theorem nfU {D : va_G} {t : Nat → ClassId} {G : hG} {ak av : Nat → Nat} {s : State} {args : Array Value} (hE : kE D t G ak av s) {q : String × Nat × String × String × String × String} (hq : q ∈ nFl) : (Cond.fieldLinkNest q.1 q.2.1 q.2.2.1 q.2.2.2.1 q.2.2.2.2.1 q.2.2.2.2.2).before args s = true := va_Nw.use rfl (hE.2.1 q hq)
theorem nmU {D : va_G} {t : Nat → ClassId} {G : hG} {ak av : Nat → Nat} {s : State} (hE : kE D t G ak av s) {q : String × Nat × MethodName × String} (hq : q ∈ nMl) : va_Nw (.methodLinkNest q.1 q.2.1 q.2.2.1 q.2.2.2) s := hE.2.2.1 q hq
theorem S9 {D : va_G} {cl : List vw_C} {G : hG} {h h' : hM} {s : State} {H : Heap} {locs : List Loc} (h0 : hm D cl G h s.heap) (h1 : hm D cl G h' H) (hz : s.heap.size ≤ H.size) (hLo : hLc G.P locs) : va_S (kA G) s.heap H locs :=
  ⟨hz, fun q _ hq => by rw [h1.1.2 q hq, h0.1.2 q hq], hLo⟩
theorem K9 {D : va_G} {cl : List vw_C} {G : hG} {h : hM} {s : State} {ak av : Nat → Nat} (hS : kS G ak av s) (h0 : hm D cl G h s.heap) : vk_S 3 sLen sByt ak av (kA G) s s.heap := hS.1.kept (fun a _ hn => h0.1.2 a hn)
theorem C9 {D : va_G} {cl : List vw_C} {G : hG} {h : hM} {s : State} {ak av : Nat → Nat} (hS : kS G ak av s) (h0 : hm D cl G h s.heap) : va_Z R_St "COMPACT_STRINGS" "Z" (.int 1) (kA G) s s.heap := hS.2.2.2.2.2.2.2.1.kept (fun a _ hn => h0.1.2 a hn)
theorem Q9 {D : va_G} {cl : List vw_C} {G : hG} {h : hM} {s : State} {ak av : Nat → Nat} (hS : kS G ak av s) (h0 : hm D cl G h s.heap) : va_Zq R_Pr "SIOOBE_FORMATTER" "Ljava/util/function/BiFunction;" (kA G) s s.heap := hS.2.2.2.2.2.2.2.2.1.kept (fun a _ hn => h0.1.2 a hn)
/-- a call on a String of the old heap -/
theorem hP_W {K : State → Prop} {D : va_G} {cl : List vw_C} {G : hG} {h : hM} {s : State} {H : Heap} {As : List Value} {C : String} {b : Nat} (ok : hKok K) (hk : K s) (hH : hm D cl G h H) (hr : ∃ cellB : Cell, H[b]? = some cellB ∧ cellB.vm.isStatics = false ∧ s.vm.findClass C = some cellB.cls) : PreV s H C b (hP K D cl G h (.ref b :: As)) As :=
  ⟨fun a U g mk q => ⟨q.1, ok.1 U g mk a q.2.1, q.2.2⟩, hr, fun U hU hW => ⟨rfl, ok.2 s U hW hk, by rw [hU]; exact hH⟩⟩
/-- a page's bytes -/
def pgF (t : Nat → ClassId) (h : hM) (pb n : Nat) : Prop := ∃ f : Nat → Int32, sb_Fit f ∧ h pb = some (.inl (t 0, n, .inl f))
theorem gd_Me : ∀ w ∈ u_ws R_Me F_Me 2, goodWord w = true := by decide +kernel
theorem ig_Me : ∀ w ∈ u_ws R_Me F_Me 2, w ∈ lw_g := fun w hw => lw_gin (List.mem_append_right _ ((by decide +kernel : ∀ w ∈ u_ws R_Me F_Me 2, w ∈ tables_1) w hw)) (gd_Me w hw)
theorem df_Me : ∀ j, j < 2 → defaultValue (t_Me j) = vp_V [.null, .int 0] j := fun j hj => by
  rcases (show j = 0 ∨ j = 1 by omega) with rfl | rfl <;> rfl
theorem gd_No : ∀ w ∈ u_ws R_No F_No 11, goodWord w = true := by decide +kernel
theorem ig_No : ∀ w ∈ u_ws R_No F_No 11, w ∈ lw_g := fun w hw => lw_gin (List.mem_append_right _ ((by decide +kernel : ∀ w ∈ u_ws R_No F_No 11, w ∈ tables_1) w hw)) (gd_No w hw)
theorem df_No : ∀ j, j < 11 → defaultValue (t_No j) = vp_V [.int 0, .null, .int 0, .long 0, .int 0, .int 0, .int 0, .int 0, .int 0, .int 0, .int 0] j := fun j hj => by
  rcases (show j = 0 ∨ j = 1 ∨ j = 2 ∨ j = 3 ∨ j = 4 ∨ j = 5 ∨ j = 6 ∨ j = 7 ∨ j = 8 ∨ j = 9 ∨ j = 10 by omega) with rfl | rfl | rfl | rfl | rfl | rfl | rfl | rfl | rfl | rfl | rfl <;> rfl
theorem gd_Ns : ∀ w ∈ u_ws R_Ns F_Ns 4, goodWord w = true := by decide +kernel
theorem ig_Ns : ∀ w ∈ u_ws R_Ns F_Ns 4, w ∈ lw_g := fun w hw => lw_gin (List.mem_append_right _ ((by decide +kernel : ∀ w ∈ u_ws R_Ns F_Ns 4, w ∈ tables_1) w hw)) (gd_Ns w hw)
theorem df_Ns : ∀ j, j < 4 → defaultValue (t_Ns j) = vp_V [.null, .null, .int 0, .int 0] j := fun j hj => by
  rcases (show j = 0 ∨ j = 1 ∨ j = 2 ∨ j = 3 by omega) with rfl | rfl | rfl | rfl <;> rfl
theorem gd_Pg : ∀ w ∈ u_ws R_Pg F_Pg 1, goodWord w = true := by decide +kernel
theorem ig_Pg : ∀ w ∈ u_ws R_Pg F_Pg 1, w ∈ lw_g := fun w hw => lw_gin (List.mem_append_right _ ((by decide +kernel : ∀ w ∈ u_ws R_Pg F_Pg 1, w ∈ tables_1) w hw)) (gd_Pg w hw)
theorem df_Pg : ∀ j, j < 1 → defaultValue (t_Pg j) = vp_V [.null] j := fun j hj => by
  rcases (show j = 0 by omega) with rfl <;> rfl
theorem gd_Po : ∀ w ∈ u_ws R_Po F_Po 3, goodWord w = true := by decide +kernel
theorem ig_Po : ∀ w ∈ u_ws R_Po F_Po 3, w ∈ lw_g := fun w hw => lw_gin (List.mem_append_right _ ((by decide +kernel : ∀ w ∈ u_ws R_Po F_Po 3, w ∈ tables_1) w hw)) (gd_Po w hw)
theorem df_Po : ∀ j, j < 3 → defaultValue (t_Po j) = vp_V [.int 0, .int 0, .int 0] j := fun j hj => by
  rcases (show j = 0 ∨ j = 1 ∨ j = 2 by omega) with rfl | rfl | rfl <;> rfl
theorem gd_Re : ∀ w ∈ u_ws R_Re F_Re 5, goodWord w = true := by decide +kernel
theorem ig_Re : ∀ w ∈ u_ws R_Re F_Re 5, w ∈ lw_g := fun w hw => lw_gin (List.mem_append_right _ ((by decide +kernel : ∀ w ∈ u_ws R_Re F_Re 5, w ∈ tables_1) w hw)) (gd_Re w hw)
theorem df_Re : ∀ j, j < 5 → defaultValue (t_Re j) = vp_V [.null, .null, .null, .null, .int 0] j := fun j hj => by
  rcases (show j = 0 ∨ j = 1 ∨ j = 2 ∨ j = 3 ∨ j = 4 by omega) with rfl | rfl | rfl | rfl | rfl <;> rfl
theorem gd_Se : ∀ w ∈ u_ws R_Se F_Se 3, goodWord w = true := by decide +kernel
theorem ig_Se : ∀ w ∈ u_ws R_Se F_Se 3, w ∈ lw_g := fun w hw => lw_gin (List.mem_append_right _ ((by decide +kernel : ∀ w ∈ u_ws R_Se F_Se 3, w ∈ tables_1) w hw)) (gd_Se w hw)
theorem df_Se : ∀ j, j < 3 → defaultValue (t_Se j) = vp_V [.int 0, .int 0, .null] j := fun j hj => by
  rcases (show j = 0 ∨ j = 1 ∨ j = 2 by omega) with rfl | rfl | rfl <;> rfl
theorem gd_Wr : ∀ w ∈ u_ws R_Wr F_Wr 2, goodWord w = true := by decide +kernel
theorem ig_Wr : ∀ w ∈ u_ws R_Wr F_Wr 2, w ∈ lw_g := fun w hw => lw_gin (List.mem_append_right _ ((by decide +kernel : ∀ w ∈ u_ws R_Wr F_Wr 2, w ∈ tables_1) w hw)) (gd_Wr w hw)
theorem df_Wr : ∀ j, j < 2 → defaultValue (t_Wr j) = vp_V [.null, .null] j := fun j hj => by
  rcases (show j = 0 ∨ j = 1 by omega) with rfl | rfl <;> rfl
theorem gd_Di : ∀ w ∈ u_ws R_Di F_Di 9, goodWord w = true := by decide +kernel
theorem ig_Di : ∀ w ∈ u_ws R_Di F_Di 9, w ∈ lw_g := fun w hw => lw_gin (List.mem_append_right _ ((by decide +kernel : ∀ w ∈ u_ws R_Di F_Di 9, w ∈ tables_1) w hw)) (gd_Di w hw)
theorem df_Di : ∀ j, j < 9 → defaultValue (t_Di j) = vp_V [.null, .null, .null, .null, .null, .int 0, .int 0, .null, .null] j := fun j hj => by
  rcases (show j = 0 ∨ j = 1 ∨ j = 2 ∨ j = 3 ∨ j = 4 ∨ j = 5 ∨ j = 6 ∨ j = 7 ∨ j = 8 by omega) with rfl | rfl | rfl | rfl | rfl | rfl | rfl | rfl | rfl <;> rfl
theorem gd_Mo : ∀ w ∈ u_ws R_Mo F_Mo 41, goodWord w = true := by decide +kernel
theorem ig_Mo : ∀ w ∈ u_ws R_Mo F_Mo 41, w ∈ lw_g := fun w hw => lw_gin (List.mem_append_right _ ((by decide +kernel : ∀ w ∈ u_ws R_Mo F_Mo 41, w ∈ tables_1) w hw)) (gd_Mo w hw)
theorem df_Mo : ∀ j, j < 41 → defaultValue (t_Mo j) = vp_V [.int 0, .int 0, .int 0, .null, .null, .null, .int 0, .int 0, .int 0, .null, .int 0, .null, .null, .null, .null, .null, .null, .null, .null, .null, .int 0, .null, .int 0, .int 0, .null, .null, .null, .int 0, .int 0, .null, .null, .null, .null, .null, .null, .int 0, .null, .null, .null, .null, .null] j := fun j hj => by
  rcases (show j = 0 ∨ j = 1 ∨ j = 2 ∨ j = 3 ∨ j = 4 ∨ j = 5 ∨ j = 6 ∨ j = 7 ∨ j = 8 ∨ j = 9 ∨ j = 10 ∨ j = 11 ∨ j = 12 ∨ j = 13 ∨ j = 14 ∨ j = 15 ∨ j = 16 ∨ j = 17 ∨ j = 18 ∨ j = 19 ∨ j = 20 ∨ j = 21 ∨ j = 22 ∨ j = 23 ∨ j = 24 ∨ j = 25 ∨ j = 26 ∨ j = 27 ∨ j = 28 ∨ j = 29 ∨ j = 30 ∨ j = 31 ∨ j = 32 ∨ j = 33 ∨ j = 34 ∨ j = 35 ∨ j = 36 ∨ j = 37 ∨ j = 38 ∨ j = 39 ∨ j = 40 by omega) with rfl | rfl | rfl | rfl | rfl | rfl | rfl | rfl | rfl | rfl | rfl | rfl | rfl | rfl | rfl | rfl | rfl | rfl | rfl | rfl | rfl | rfl | rfl | rfl | rfl | rfl | rfl | rfl | rfl | rfl | rfl | rfl | rfl | rfl | rfl | rfl | rfl | rfl | rfl | rfl | rfl <;> rfl
