/-! the tables: array classes, nest links, arrays of references -/
abbrev tyG (t : Nat → ClassId) : List (ClassId × FieldType) := [(t 0, .byte), (t 1, .boolean), (t 2, .int), (t 3, .long), (t 4, .object "WriteOnceDisc$Node"), (t 5, .object "WriteOnceDisc$Sector")]
def nFl : List (String × Nat × String × String × String × String) := []
def nMl : List (String × Nat × MethodName × String) := [(R_Me, 21, y_Se_init, "WriteOnceDisc"), (R_Ns, 27, y_No_init, "WriteOnceDisc"), (R_Wr, 11, y_Po_init, "WriteOnceDisc"), (R_Re, 22, y_No_init, "WriteOnceDisc")]
theorem nM_0 : (R_Me, 21, y_Se_init, "WriteOnceDisc") ∈ nMl := List.mem_of_getElem? (i := 0) rfl
theorem nM_1 : (R_Ns, 27, y_No_init, "WriteOnceDisc") ∈ nMl := List.mem_of_getElem? (i := 1) rfl
theorem nM_2 : (R_Wr, 11, y_Po_init, "WriteOnceDisc") ∈ nMl := List.mem_of_getElem? (i := 2) rfl
theorem nM_3 : (R_Re, 22, y_No_init, "WriteOnceDisc") ∈ nMl := List.mem_of_getElem? (i := 3) rfl
def kE (D : va_G) (t : Nat → ClassId) (G : Heap) (ak av : Nat → Nat) (U : State) : Prop :=
  va_K D vwCl (tyG t) U ∧ (∀ q ∈ nFl, va_Nw (.fieldLinkNest q.1 q.2.1 q.2.2.1 q.2.2.2.1 q.2.2.2.2.1 q.2.2.2.2.2) U) ∧ (∀ q ∈ nMl, va_Nw (.methodLinkNest q.1 q.2.1 q.2.2.1 q.2.2.2) U) ∧ ∀ C ∈ (["WriteOnceDisc$Node", "WriteOnceDisc$Sector"] : List String), va_AO C U
theorem kE_ok {D : va_G} {t : Nat → ClassId} {G : Heap} {ak av : Nat → Nat} : hKok (kE D t G ak av) :=
  ⟨fun U g mk a k => ⟨va_K.moved (u := U) (U := U.calling g mk a) (Vm.Alike.refl U.vm) k.1, fun q hq => va_Nw.same (u := U) rfl rfl (k.2.1 q hq), fun q hq => va_Nw.same (u := U) rfl rfl (k.2.2.1 q hq), fun C hC => va_AO.moved (u := U) (Vm.Alike.refl U.vm) (k.2.2.2 C hC)⟩,
   fun s U hW k => ⟨va_K.moved hW.alike k.1, fun q hq => va_Nw.warmF hW (k.2.1 q hq), fun q hq => va_Nw.warmM hW (k.2.2.1 q hq), fun C hC => va_AO.moved hW.alike (k.2.2.2 C hC)⟩⟩
theorem nfU {D : va_G} {t : Nat → ClassId} {G : Heap} {ak av : Nat → Nat} {s : State} {args : Array Value} (hE : kE D t G ak av s) {q : String × Nat × String × String × String × String} (hq : q ∈ nFl) : (Cond.fieldLinkNest q.1 q.2.1 q.2.2.1 q.2.2.2.1 q.2.2.2.2.1 q.2.2.2.2.2).before args s = true := va_Nw.use rfl (hE.2.1 q hq)
theorem nmU {D : va_G} {t : Nat → ClassId} {G : Heap} {ak av : Nat → Nat} {s : State} (hE : kE D t G ak av s) {q : String × Nat × MethodName × String} (hq : q ∈ nMl) : va_Nw (.methodLinkNest q.1 q.2.1 q.2.2.1 q.2.2.2) s := hE.2.2.1 q hq
/-- a page's bytes -/
def pgF (t : Nat → ClassId) (h : hM) (pb n : Nat) : Prop := ∃ f : Nat → Int32, sb_Fit f ∧ h pb = some (.inl (t 0, n, .inl f))
theorem gd_Me : ∀ w ∈ u_ws R_Me F_Me 2, goodWord w = true := by decide +kernel
theorem ig_Me : ∀ w ∈ u_ws R_Me F_Me 2, w ∈ lw_g := fun w hw => lw_gin (List.mem_append_right _ ((by decide +kernel : ∀ w ∈ u_ws R_Me F_Me 2, w ∈ tables_1) w hw)) (gd_Me w hw)
theorem df_Me : ∀ j, j < 2 → defaultValue (t_Me j) = vp_V [.null, .int 0] j := fun j hj => by
  rcases (show j = 0 ∨ j = 1 by omega) with rfl | rfl <;> rfl
theorem gd_No : ∀ w ∈ u_ws R_No F_No 11, goodWord w = true := by decide +kernel
theorem ig_No : ∀ w ∈ u_ws R_No F_No 11, w ∈ lw_g := fun w hw => lw_gin (List.mem_append_right _ ((by decide +kernel : ∀ w ∈ u_ws R_No F_No 11, w ∈ tables_1) w hw)) (gd_No w hw)
theorem df_No : ∀ j, j < 11 → defaultValue (t_No j) = vp_V [.int 0, .null, .int 0, .long 0, .int 0, .int 0, .int 0, .int 0, .int 0, .int 0, .int 0] j := fun j hj => by
  rcases (show j = 0 ∨ j = 1 ∨ j = 2 ∨ j = 3 ∨ j = 4 ∨ j = 5 ∨ j = 6 ∨ j = 7 ∨ j = 8 ∨ j = 9 ∨ j = 10 by omega) with rfl | rfl | rfl | rfl | rfl | rfl | rfl | rfl | rfl | rfl | rfl <;> rfl
theorem gd_Ns : ∀ w ∈ u_ws R_Ns F_Ns 4, goodWord w = true := by decide +kernel
theorem ig_Ns : ∀ w ∈ u_ws R_Ns F_Ns 4, w ∈ lw_g := fun w hw => lw_gin (List.mem_append_right _ ((by decide +kernel : ∀ w ∈ u_ws R_Ns F_Ns 4, w ∈ tables_1) w hw)) (gd_Ns w hw)
theorem df_Ns : ∀ j, j < 4 → defaultValue (t_Ns j) = vp_V [.null, .null, .int 0, .int 0] j := fun j hj => by
  rcases (show j = 0 ∨ j = 1 ∨ j = 2 ∨ j = 3 by omega) with rfl | rfl | rfl | rfl <;> rfl
theorem gd_Pg : ∀ w ∈ u_ws R_Pg F_Pg 1, goodWord w = true := by decide +kernel
theorem ig_Pg : ∀ w ∈ u_ws R_Pg F_Pg 1, w ∈ lw_g := fun w hw => lw_gin (List.mem_append_right _ ((by decide +kernel : ∀ w ∈ u_ws R_Pg F_Pg 1, w ∈ tables_1) w hw)) (gd_Pg w hw)
theorem df_Pg : ∀ j, j < 1 → defaultValue (t_Pg j) = vp_V [.null] j := fun j hj => by
  rcases (show j = 0 by omega) with rfl <;> rfl
theorem gd_Po : ∀ w ∈ u_ws R_Po F_Po 3, goodWord w = true := by decide +kernel
theorem ig_Po : ∀ w ∈ u_ws R_Po F_Po 3, w ∈ lw_g := fun w hw => lw_gin (List.mem_append_right _ ((by decide +kernel : ∀ w ∈ u_ws R_Po F_Po 3, w ∈ tables_1) w hw)) (gd_Po w hw)
theorem df_Po : ∀ j, j < 3 → defaultValue (t_Po j) = vp_V [.int 0, .int 0, .int 0] j := fun j hj => by
  rcases (show j = 0 ∨ j = 1 ∨ j = 2 by omega) with rfl | rfl | rfl <;> rfl
theorem gd_Re : ∀ w ∈ u_ws R_Re F_Re 5, goodWord w = true := by decide +kernel
theorem ig_Re : ∀ w ∈ u_ws R_Re F_Re 5, w ∈ lw_g := fun w hw => lw_gin (List.mem_append_right _ ((by decide +kernel : ∀ w ∈ u_ws R_Re F_Re 5, w ∈ tables_1) w hw)) (gd_Re w hw)
theorem df_Re : ∀ j, j < 5 → defaultValue (t_Re j) = vp_V [.null, .null, .null, .null, .int 0] j := fun j hj => by
  rcases (show j = 0 ∨ j = 1 ∨ j = 2 ∨ j = 3 ∨ j = 4 by omega) with rfl | rfl | rfl | rfl | rfl <;> rfl
theorem gd_Se : ∀ w ∈ u_ws R_Se F_Se 3, goodWord w = true := by decide +kernel
theorem ig_Se : ∀ w ∈ u_ws R_Se F_Se 3, w ∈ lw_g := fun w hw => lw_gin (List.mem_append_right _ ((by decide +kernel : ∀ w ∈ u_ws R_Se F_Se 3, w ∈ tables_1) w hw)) (gd_Se w hw)
theorem df_Se : ∀ j, j < 3 → defaultValue (t_Se j) = vp_V [.int 0, .int 0, .null] j := fun j hj => by
  rcases (show j = 0 ∨ j = 1 ∨ j = 2 by omega) with rfl | rfl | rfl <;> rfl
theorem gd_Wr : ∀ w ∈ u_ws R_Wr F_Wr 2, goodWord w = true := by decide +kernel
theorem ig_Wr : ∀ w ∈ u_ws R_Wr F_Wr 2, w ∈ lw_g := fun w hw => lw_gin (List.mem_append_right _ ((by decide +kernel : ∀ w ∈ u_ws R_Wr F_Wr 2, w ∈ tables_1) w hw)) (gd_Wr w hw)
theorem df_Wr : ∀ j, j < 2 → defaultValue (t_Wr j) = vp_V [.null, .null] j := fun j hj => by
  rcases (show j = 0 ∨ j = 1 by omega) with rfl | rfl <;> rfl
theorem gd_Di : ∀ w ∈ u_ws R_Di F_Di 9, goodWord w = true := by decide +kernel
theorem ig_Di : ∀ w ∈ u_ws R_Di F_Di 9, w ∈ lw_g := fun w hw => lw_gin (List.mem_append_right _ ((by decide +kernel : ∀ w ∈ u_ws R_Di F_Di 9, w ∈ tables_1) w hw)) (gd_Di w hw)
theorem df_Di : ∀ j, j < 9 → defaultValue (t_Di j) = vp_V [.null, .null, .null, .null, .null, .int 0, .int 0, .null, .null] j := fun j hj => by
  rcases (show j = 0 ∨ j = 1 ∨ j = 2 ∨ j = 3 ∨ j = 4 ∨ j = 5 ∨ j = 6 ∨ j = 7 ∨ j = 8 by omega) with rfl | rfl | rfl | rfl | rfl | rfl | rfl | rfl | rfl <;> rfl
theorem gd_Mo : ∀ w ∈ u_ws R_Mo F_Mo 41, goodWord w = true := by decide +kernel
theorem ig_Mo : ∀ w ∈ u_ws R_Mo F_Mo 41, w ∈ lw_g := fun w hw => lw_gin (List.mem_append_right _ ((by decide +kernel : ∀ w ∈ u_ws R_Mo F_Mo 41, w ∈ tables_1) w hw)) (gd_Mo w hw)
theorem df_Mo : ∀ j, j < 41 → defaultValue (t_Mo j) = vp_V [.int 0, .int 0, .int 0, .null, .null, .null, .int 0, .int 0, .int 0, .null, .int 0, .null, .null, .null, .null, .null, .null, .null, .null, .null, .int 0, .null, .int 0, .int 0, .null, .null, .null, .int 0, .int 0, .null, .null, .null, .null, .null, .null, .int 0, .null, .null, .null, .null, .null] j := fun j hj => by
  rcases (show j = 0 ∨ j = 1 ∨ j = 2 ∨ j = 3 ∨ j = 4 ∨ j = 5 ∨ j = 6 ∨ j = 7 ∨ j = 8 ∨ j = 9 ∨ j = 10 ∨ j = 11 ∨ j = 12 ∨ j = 13 ∨ j = 14 ∨ j = 15 ∨ j = 16 ∨ j = 17 ∨ j = 18 ∨ j = 19 ∨ j = 20 ∨ j = 21 ∨ j = 22 ∨ j = 23 ∨ j = 24 ∨ j = 25 ∨ j = 26 ∨ j = 27 ∨ j = 28 ∨ j = 29 ∨ j = 30 ∨ j = 31 ∨ j = 32 ∨ j = 33 ∨ j = 34 ∨ j = 35 ∨ j = 36 ∨ j = 37 ∨ j = 38 ∨ j = 39 ∨ j = 40 by omega) with rfl | rfl | rfl | rfl | rfl | rfl | rfl | rfl | rfl | rfl | rfl | rfl | rfl | rfl | rfl | rfl | rfl | rfl | rfl | rfl | rfl | rfl | rfl | rfl | rfl | rfl | rfl | rfl | rfl | rfl | rfl | rfl | rfl | rfl | rfl | rfl | rfl | rfl | rfl | rfl | rfl <;> rfl
theorem mw_0 : Cond.methodLink R_Po 3 objectInit ∈ lw_g := lw_gin (List.mem_append_right _ (List.mem_of_getElem? (i := 41) rfl)) (by decide +kernel)
theorem mw_1 : Cond.instanceMethod objectInit ∈ lw_g := lw_gin (List.mem_append_right _ (List.mem_of_getElem? (i := 28) rfl)) (by decide +kernel)
theorem mw_2 : Cond.code objectInit ⟨#[0xb1]⟩ 1 none ∈ lw_g := lw_gin (List.mem_append_right _ (List.mem_of_getElem? (i := 29) rfl)) (by decide +kernel)
theorem mw_3 : Cond.fieldLink R_Po 9 "WriteOnceDisc$Power" "left" "I" ∈ lw_g := lw_gin (List.mem_append_right _ (List.mem_of_getElem? (i := 42) rfl)) (by decide +kernel)
theorem mw_4 : Cond.fieldLink R_Po 15 "WriteOnceDisc$Power" "isLost" "Z" ∈ lw_g := lw_gin (List.mem_append_right _ (List.mem_of_getElem? (i := 44) rfl)) (by decide +kernel)
theorem mw_5 : Cond.fieldLink R_Po 19 "WriteOnceDisc$Power" "spent" "I" ∈ lw_g := lw_gin (List.mem_append_right _ (List.mem_of_getElem? (i := 46) rfl)) (by decide +kernel)
theorem mw_6 : Cond.methodLink R_Se 3 objectInit ∈ lw_g := lw_gin (List.mem_append_right _ (List.mem_of_getElem? (i := 209) rfl)) (by decide +kernel)
theorem mw_7 : Cond.fieldLink R_Se 9 "WriteOnceDisc$Sector" "condition" "I" ∈ lw_g := lw_gin (List.mem_append_right _ (List.mem_of_getElem? (i := 210) rfl)) (by decide +kernel)
theorem mw_8 : Cond.fieldLink R_Se 15 "WriteOnceDisc$Sector" "isDefective" "Z" ∈ lw_g := lw_gin (List.mem_append_right _ (List.mem_of_getElem? (i := 213) rfl)) (by decide +kernel)
theorem mw_9 : Cond.fieldLink R_Se 19 "WriteOnceDisc$Sector" "bytes" "[B" ∈ lw_g := lw_gin (List.mem_append_right _ (List.mem_of_getElem? (i := 215) rfl)) (by decide +kernel)
theorem mw_10 : Cond.methodLink R_No 3 objectInit ∈ lw_g := lw_gin (List.mem_append_right _ (List.mem_of_getElem? (i := 89) rfl)) (by decide +kernel)
theorem mw_11 : Cond.fieldLink R_No 9 "WriteOnceDisc$Node" "number" "I" ∈ lw_g := lw_gin (List.mem_append_right _ (List.mem_of_getElem? (i := 90) rfl)) (by decide +kernel)
theorem mw_12 : Cond.fieldLink R_No 15 "WriteOnceDisc$Node" "parent" "LWriteOnceDisc$Node;" ∈ lw_g := lw_gin (List.mem_append_right _ (List.mem_of_getElem? (i := 93) rfl)) (by decide +kernel)
theorem mw_13 : Cond.fieldLink R_No 19 "WriteOnceDisc$Node" "isDirectory" "Z" ∈ lw_g := lw_gin (List.mem_append_right _ (List.mem_of_getElem? (i := 98) rfl)) (by decide +kernel)
theorem mw_14 : Cond.fieldLink R_No 23 "WriteOnceDisc$Node" "word" "J" ∈ lw_g := lw_gin (List.mem_append_right _ (List.mem_of_getElem? (i := 104) rfl)) (by decide +kernel)
theorem mw_15 : Cond.fieldLink R_No 27 "WriteOnceDisc$Node" "letters" "I" ∈ lw_g := lw_gin (List.mem_append_right _ (List.mem_of_getElem? (i := 107) rfl)) (by decide +kernel)
theorem mw_16 : Cond.fieldLink R_No 30 "WriteOnceDisc$Node" "size" "I" ∈ lw_g := lw_gin (List.mem_append_right _ (List.mem_of_getElem? (i := 109) rfl)) (by decide +kernel)
theorem mw_17 : Cond.fieldLink R_No 33 "WriteOnceDisc$Node" "seed" "I" ∈ lw_g := lw_gin (List.mem_append_right _ (List.mem_of_getElem? (i := 114) rfl)) (by decide +kernel)
theorem mw_18 : Cond.fieldLink R_No 36 "WriteOnceDisc$Node" "isWritten" "Z" ∈ lw_g := lw_gin (List.mem_append_right _ (List.mem_of_getElem? (i := 116) rfl)) (by decide +kernel)
theorem mw_19 : Cond.fieldLink R_No 39 "WriteOnceDisc$Node" "extent" "I" ∈ lw_g := lw_gin (List.mem_append_right _ (List.mem_of_getElem? (i := 119) rfl)) (by decide +kernel)
theorem mw_20 : Cond.fieldLink R_No 42 "WriteOnceDisc$Node" "sector" "I" ∈ lw_g := lw_gin (List.mem_append_right _ (List.mem_of_getElem? (i := 123) rfl)) (by decide +kernel)
theorem mw_21 : Cond.fieldLink R_No 45 "WriteOnceDisc$Node" "numberInPathTable" "I" ∈ lw_g := lw_gin (List.mem_append_right _ (List.mem_of_getElem? (i := 129) rfl)) (by decide +kernel)
theorem mw_22 : Cond.methodLink R_Pg 3 objectInit ∈ lw_g := lw_gin (List.mem_append_right _ (List.mem_of_getElem? (i := 60) rfl)) (by decide +kernel)
theorem mw_23 : Cond.arrayClass .byte ∈ lw_g := lw_gin (List.mem_append_right _ (List.mem_of_getElem? (i := 67) rfl)) (by decide +kernel)
theorem mw_24 : Cond.fieldLink R_Pg 9 "WriteOnceDisc$Page" "bytes" "[B" ∈ lw_g := lw_gin (List.mem_append_right _ (List.mem_of_getElem? (i := 61) rfl)) (by decide +kernel)
theorem mw_25 : Cond.methodLink R_Me 3 objectInit ∈ lw_g := lw_gin (List.mem_append_right _ (List.mem_of_getElem? (i := 202) rfl)) (by decide +kernel)
theorem mw_26 : Cond.fieldLink R_Me 9 "WriteOnceDisc$Medium" "front" "I" ∈ lw_g := lw_gin (List.mem_append_right _ (List.mem_of_getElem? (i := 228) rfl)) (by decide +kernel)
theorem mw_27 : Cond.classLink R_Me 15 R_Se ∈ lw_g := lw_gin (List.mem_append_right _ (List.mem_of_getElem? (i := 203) rfl)) (by decide +kernel)
theorem mw_28 : Cond.fieldLink R_Me 17 "WriteOnceDisc$Medium" "sectors" "[LWriteOnceDisc$Sector;" ∈ lw_g := lw_gin (List.mem_append_right _ (List.mem_of_getElem? (i := 224) rfl)) (by decide +kernel)
theorem mw_29 : Cond.instantiable R_Se 3 ∈ lw_g := lw_gin (List.mem_append_right _ (List.mem_of_getElem? (i := 205) rfl)) (by decide +kernel)
theorem mw_30 : Cond.initialized R_Se ∈ lw_g := lw_gin (List.mem_append_right _ (List.mem_of_getElem? (i := 9) rfl)) (by decide +kernel)
theorem mw_31 : Cond.code y_Se_init b_Se_init 1 none ∈ lw_g := lw_gin (List.mem_append_right _ (List.mem_of_getElem? (i := 208) rfl)) (by decide +kernel)
theorem mw_32 : Cond.instanceMethod y_Se_init ∈ lw_g := lw_gin (List.mem_append_right _ (List.mem_of_getElem? (i := 207) rfl)) (by decide +kernel)
theorem mw_33 : Cond.methodLink R_Ns 3 objectInit ∈ lw_g := lw_gin (List.mem_append_right _ (List.mem_of_getElem? (i := 175) rfl)) (by decide +kernel)
theorem mw_34 : Cond.classLink R_Ns 9 R_No ∈ lw_g := lw_gin (List.mem_append_right _ (List.mem_of_getElem? (i := 176) rfl)) (by decide +kernel)
theorem mw_35 : Cond.fieldLink R_Ns 11 "WriteOnceDisc$Nodes" "slots" "[LWriteOnceDisc$Node;" ∈ lw_g := lw_gin (List.mem_append_right _ (List.mem_of_getElem? (i := 179) rfl)) (by decide +kernel)
theorem mw_36 : Cond.fieldLink R_Ns 17 "WriteOnceDisc$Nodes" "order" "[LWriteOnceDisc$Node;" ∈ lw_g := lw_gin (List.mem_append_right _ (List.mem_of_getElem? (i := 182) rfl)) (by decide +kernel)
theorem mw_37 : Cond.fieldLink R_Ns 20 "WriteOnceDisc$Nodes" "count" "I" ∈ lw_g := lw_gin (List.mem_append_right _ (List.mem_of_getElem? (i := 184) rfl)) (by decide +kernel)
theorem mw_38 : Cond.fieldLink R_Ns 24 "WriteOnceDisc$Nodes" "nextNumber" "I" ∈ lw_g := lw_gin (List.mem_append_right _ (List.mem_of_getElem? (i := 187) rfl)) (by decide +kernel)
theorem mw_39 : Cond.instantiable R_No 11 ∈ lw_g := lw_gin (List.mem_append_right _ (List.mem_of_getElem? (i := 85) rfl)) (by decide +kernel)
theorem mw_40 : Cond.initialized R_No ∈ lw_g := lw_gin (List.mem_append_right _ (List.mem_of_getElem? (i := 6) rfl)) (by decide +kernel)
theorem mw_41 : Cond.code y_No_init b_No_init 1 none ∈ lw_g := lw_gin (List.mem_append_right _ (List.mem_of_getElem? (i := 88) rfl)) (by decide +kernel)
theorem mw_42 : Cond.instanceMethod y_No_init ∈ lw_g := lw_gin (List.mem_append_right _ (List.mem_of_getElem? (i := 87) rfl)) (by decide +kernel)
theorem mw_43 : Cond.methodLink R_Wr 3 objectInit ∈ lw_g := lw_gin (List.mem_append_right _ (List.mem_of_getElem? (i := 35) rfl)) (by decide +kernel)
theorem mw_44 : Cond.classLink R_Wr 9 R_Po ∈ lw_g := lw_gin (List.mem_append_right _ (List.mem_of_getElem? (i := 36) rfl)) (by decide +kernel)
theorem mw_45 : Cond.instantiable R_Po 3 ∈ lw_g := lw_gin (List.mem_append_right _ (List.mem_of_getElem? (i := 37) rfl)) (by decide +kernel)
theorem mw_46 : Cond.initialized R_Po ∈ lw_g := lw_gin (List.mem_append_right _ (List.mem_of_getElem? (i := 3) rfl)) (by decide +kernel)
theorem mw_47 : Cond.code y_Po_init b_Po_init 1 none ∈ lw_g := lw_gin (List.mem_append_right _ (List.mem_of_getElem? (i := 40) rfl)) (by decide +kernel)
theorem mw_48 : Cond.instanceMethod y_Po_init ∈ lw_g := lw_gin (List.mem_append_right _ (List.mem_of_getElem? (i := 39) rfl)) (by decide +kernel)
theorem mw_49 : Cond.fieldLink R_Wr 12 "WriteOnceDisc$Writer" "supply" "LWriteOnceDisc$Power;" ∈ lw_g := lw_gin (List.mem_append_right _ (List.mem_of_getElem? (i := 68) rfl)) (by decide +kernel)
theorem mw_50 : Cond.classLink R_Wr 18 R_Pg ∈ lw_g := lw_gin (List.mem_append_right _ (List.mem_of_getElem? (i := 55) rfl)) (by decide +kernel)
theorem mw_51 : Cond.instantiable R_Pg 1 ∈ lw_g := lw_gin (List.mem_append_right _ (List.mem_of_getElem? (i := 56) rfl)) (by decide +kernel)
theorem mw_52 : Cond.initialized R_Pg ∈ lw_g := lw_gin (List.mem_append_right _ (List.mem_of_getElem? (i := 4) rfl)) (by decide +kernel)
theorem mw_53 : Cond.code y_Pg_init b_Pg_init 2 none ∈ lw_g := lw_gin (List.mem_append_right _ (List.mem_of_getElem? (i := 59) rfl)) (by decide +kernel)
theorem mw_54 : Cond.methodLink R_Wr 20 y_Pg_init ∈ lw_g := lw_gin (List.mem_append_right _ (List.mem_of_getElem? (i := 57) rfl)) (by decide +kernel)
theorem mw_55 : Cond.instanceMethod y_Pg_init ∈ lw_g := lw_gin (List.mem_append_right _ (List.mem_of_getElem? (i := 58) rfl)) (by decide +kernel)
theorem mw_56 : Cond.fieldLink R_Wr 23 "WriteOnceDisc$Writer" "page" "LWriteOnceDisc$Page;" ∈ lw_g := lw_gin (List.mem_append_right _ (List.mem_of_getElem? (i := 70) rfl)) (by decide +kernel)
theorem mw_57 : Cond.methodLink R_Re 3 objectInit ∈ lw_g := lw_gin (List.mem_append_right _ (List.mem_of_getElem? (i := 81) rfl)) (by decide +kernel)
theorem mw_58 : Cond.classLink R_Re 9 R_Pg ∈ lw_g := lw_gin (List.mem_append_right _ (List.mem_of_getElem? (i := 82) rfl)) (by decide +kernel)
theorem mw_59 : Cond.methodLink R_Re 11 y_Pg_init ∈ lw_g := lw_gin (List.mem_append_right _ (List.mem_of_getElem? (i := 83) rfl)) (by decide +kernel)
theorem mw_60 : Cond.fieldLink R_Re 14 "WriteOnceDisc$Reader" "table" "LWriteOnceDisc$Page;" ∈ lw_g := lw_gin (List.mem_append_right _ (List.mem_of_getElem? (i := 154) rfl)) (by decide +kernel)
theorem mw_61 : Cond.classLink R_Re 20 R_No ∈ lw_g := lw_gin (List.mem_append_right _ (List.mem_of_getElem? (i := 84) rfl)) (by decide +kernel)
theorem mw_62 : Cond.fieldLink R_Re 23 "WriteOnceDisc$Reader" "told" "LWriteOnceDisc$Node;" ∈ lw_g := lw_gin (List.mem_append_right _ (List.mem_of_getElem? (i := 155) rfl)) (by decide +kernel)
theorem mw_63 : Cond.fieldLink R_Re 27 "WriteOnceDisc$Reader" "medium" "LWriteOnceDisc$Medium;" ∈ lw_g := lw_gin (List.mem_append_right _ (List.mem_of_getElem? (i := 156) rfl)) (by decide +kernel)
theorem mw_64 : Cond.fieldLink R_Re 31 "WriteOnceDisc$Reader" "nodes" "LWriteOnceDisc$Nodes;" ∈ lw_g := lw_gin (List.mem_append_right _ (List.mem_of_getElem? (i := 157) rfl)) (by decide +kernel)
theorem mw_65 : Cond.fieldLink R_Re 35 "WriteOnceDisc$Reader" "wrongPlace" "I" ∈ lw_g := lw_gin (List.mem_append_right _ (List.mem_of_getElem? (i := 158) rfl)) (by decide +kernel)
theorem mw_66 : Cond.code y_Pg_put b_Pg_put 3 none ∈ lw_g := lw_gin (List.mem_append_right _ (List.mem_of_getElem? (i := 428) rfl)) (by decide +kernel)
theorem mw_67 : Cond.methodLink R_Pg 31 y_Pg_put ∈ lw_g := lw_gin (List.mem_append_right _ (List.mem_of_getElem? (i := 425) rfl)) (by decide +kernel)
theorem mw_68 : Cond.instanceMethod y_Pg_put ∈ lw_g := lw_gin (List.mem_append_right _ (List.mem_of_getElem? (i := 426) rfl)) (by decide +kernel)
theorem mw_69 : Cond.selects R_Pg y_Pg_put y_Pg_put ∈ lw_g := lw_gin (List.mem_append_right _ (List.mem_of_getElem? (i := 427) rfl)) (by decide +kernel)
theorem d_Po_init_0 : decode b_Po_init 0 = .ok (.aload_n 0, 1) := by decide +kernel
theorem d_Po_init_1 : decode b_Po_init 1 = .ok (.invokespecial 3, 3) := by decide +kernel
theorem d_Po_init_4 : decode b_Po_init 4 = .ok (.aload_n 0, 1) := by decide +kernel
theorem d_Po_init_5 : decode b_Po_init 5 = .ok (.iconst (-1), 1) := by decide +kernel
theorem d_Po_init_6 : decode b_Po_init 6 = .ok (.putfield 9, 3) := by decide +kernel
theorem d_Po_init_9 : decode b_Po_init 9 = .ok (.aload_n 0, 1) := by decide +kernel
theorem d_Po_init_10 : decode b_Po_init 10 = .ok (.iconst 0, 1) := by decide +kernel
theorem d_Po_init_11 : decode b_Po_init 11 = .ok (.putfield 15, 3) := by decide +kernel
theorem d_Po_init_14 : decode b_Po_init 14 = .ok (.aload_n 0, 1) := by decide +kernel
theorem d_Po_init_15 : decode b_Po_init 15 = .ok (.iconst 0, 1) := by decide +kernel
theorem d_Po_init_16 : decode b_Po_init 16 = .ok (.putfield 19, 3) := by decide +kernel
theorem d_Po_init_19 : decode b_Po_init 19 = .ok (.return_, 1) := by decide +kernel
theorem d_Se_init_0 : decode b_Se_init 0 = .ok (.aload_n 0, 1) := by decide +kernel
theorem d_Se_init_1 : decode b_Se_init 1 = .ok (.invokespecial 3, 3) := by decide +kernel
theorem d_Se_init_4 : decode b_Se_init 4 = .ok (.aload_n 0, 1) := by decide +kernel
theorem d_Se_init_5 : decode b_Se_init 5 = .ok (.iconst 0, 1) := by decide +kernel
theorem d_Se_init_6 : decode b_Se_init 6 = .ok (.putfield 9, 3) := by decide +kernel
theorem d_Se_init_9 : decode b_Se_init 9 = .ok (.aload_n 0, 1) := by decide +kernel
theorem d_Se_init_10 : decode b_Se_init 10 = .ok (.iconst 0, 1) := by decide +kernel
theorem d_Se_init_11 : decode b_Se_init 11 = .ok (.putfield 15, 3) := by decide +kernel
theorem d_Se_init_14 : decode b_Se_init 14 = .ok (.aload_n 0, 1) := by decide +kernel
theorem d_Se_init_15 : decode b_Se_init 15 = .ok (.aconst_null, 1) := by decide +kernel
theorem d_Se_init_16 : decode b_Se_init 16 = .ok (.putfield 19, 3) := by decide +kernel
theorem d_Se_init_19 : decode b_Se_init 19 = .ok (.return_, 1) := by decide +kernel
theorem d_No_init_0 : decode b_No_init 0 = .ok (.aload_n 0, 1) := by decide +kernel
theorem d_No_init_1 : decode b_No_init 1 = .ok (.invokespecial 3, 3) := by decide +kernel
theorem d_No_init_4 : decode b_No_init 4 = .ok (.aload_n 0, 1) := by decide +kernel
theorem d_No_init_5 : decode b_No_init 5 = .ok (.iconst 0, 1) := by decide +kernel
theorem d_No_init_6 : decode b_No_init 6 = .ok (.putfield 9, 3) := by decide +kernel
theorem d_No_init_9 : decode b_No_init 9 = .ok (.aload_n 0, 1) := by decide +kernel
theorem d_No_init_10 : decode b_No_init 10 = .ok (.aconst_null, 1) := by decide +kernel
theorem d_No_init_11 : decode b_No_init 11 = .ok (.putfield 15, 3) := by decide +kernel
theorem d_No_init_14 : decode b_No_init 14 = .ok (.aload_n 0, 1) := by decide +kernel
theorem d_No_init_15 : decode b_No_init 15 = .ok (.iconst 1, 1) := by decide +kernel
theorem d_No_init_16 : decode b_No_init 16 = .ok (.putfield 19, 3) := by decide +kernel
theorem d_No_init_19 : decode b_No_init 19 = .ok (.aload_n 0, 1) := by decide +kernel
theorem d_No_init_20 : decode b_No_init 20 = .ok (.lconst 0, 1) := by decide +kernel
theorem d_No_init_21 : decode b_No_init 21 = .ok (.putfield 23, 3) := by decide +kernel
theorem d_No_init_24 : decode b_No_init 24 = .ok (.aload_n 0, 1) := by decide +kernel
theorem d_No_init_25 : decode b_No_init 25 = .ok (.iconst 0, 1) := by decide +kernel
theorem d_No_init_26 : decode b_No_init 26 = .ok (.putfield 27, 3) := by decide +kernel
theorem d_No_init_29 : decode b_No_init 29 = .ok (.aload_n 0, 1) := by decide +kernel
theorem d_No_init_30 : decode b_No_init 30 = .ok (.iconst 0, 1) := by decide +kernel
theorem d_No_init_31 : decode b_No_init 31 = .ok (.putfield 30, 3) := by decide +kernel
theorem d_No_init_34 : decode b_No_init 34 = .ok (.aload_n 0, 1) := by decide +kernel
theorem d_No_init_35 : decode b_No_init 35 = .ok (.iconst 0, 1) := by decide +kernel
theorem d_No_init_36 : decode b_No_init 36 = .ok (.putfield 33, 3) := by decide +kernel
theorem d_No_init_39 : decode b_No_init 39 = .ok (.aload_n 0, 1) := by decide +kernel
theorem d_No_init_40 : decode b_No_init 40 = .ok (.iconst 0, 1) := by decide +kernel
theorem d_No_init_41 : decode b_No_init 41 = .ok (.putfield 36, 3) := by decide +kernel
theorem d_No_init_44 : decode b_No_init 44 = .ok (.aload_n 0, 1) := by decide +kernel
theorem d_No_init_45 : decode b_No_init 45 = .ok (.iconst 0, 1) := by decide +kernel
theorem d_No_init_46 : decode b_No_init 46 = .ok (.putfield 39, 3) := by decide +kernel
theorem d_No_init_49 : decode b_No_init 49 = .ok (.aload_n 0, 1) := by decide +kernel
theorem d_No_init_50 : decode b_No_init 50 = .ok (.iconst 0, 1) := by decide +kernel
theorem d_No_init_51 : decode b_No_init 51 = .ok (.putfield 42, 3) := by decide +kernel
theorem d_No_init_54 : decode b_No_init 54 = .ok (.aload_n 0, 1) := by decide +kernel
theorem d_No_init_55 : decode b_No_init 55 = .ok (.iconst 1, 1) := by decide +kernel
theorem d_No_init_56 : decode b_No_init 56 = .ok (.putfield 45, 3) := by decide +kernel
theorem d_No_init_59 : decode b_No_init 59 = .ok (.return_, 1) := by decide +kernel
theorem d_Pg_init_0 : decode b_Pg_init 0 = .ok (.aload_n 0, 1) := by decide +kernel
theorem d_Pg_init_1 : decode b_Pg_init 1 = .ok (.invokespecial 3, 3) := by decide +kernel
theorem d_Pg_init_4 : decode b_Pg_init 4 = .ok (.aload_n 0, 1) := by decide +kernel
theorem d_Pg_init_5 : decode b_Pg_init 5 = .ok (.iload_n 1, 1) := by decide +kernel
theorem d_Pg_init_6 : decode b_Pg_init 6 = .ok (.newarray .byte, 2) := by decide +kernel
theorem d_Pg_init_8 : decode b_Pg_init 8 = .ok (.putfield 9, 3) := by decide +kernel
theorem d_Pg_init_11 : decode b_Pg_init 11 = .ok (.return_, 1) := by decide +kernel
theorem d_Me_init_0 : decode b_Me_init 0 = .ok (.aload_n 0, 1) := by decide +kernel
theorem d_Me_init_1 : decode b_Me_init 1 = .ok (.invokespecial 3, 3) := by decide +kernel
theorem d_Me_init_4 : decode b_Me_init 4 = .ok (.aload_n 0, 1) := by decide +kernel
theorem d_Me_init_5 : decode b_Me_init 5 = .ok (.iconst 0, 1) := by decide +kernel
theorem d_Me_init_6 : decode b_Me_init 6 = .ok (.putfield 9, 3) := by decide +kernel
theorem d_Me_init_9 : decode b_Me_init 9 = .ok (.aload_n 0, 1) := by decide +kernel
theorem d_Me_init_10 : decode b_Me_init 10 = .ok (.iload_n 1, 1) := by decide +kernel
theorem d_Me_init_11 : decode b_Me_init 11 = .ok (.anewarray 15, 3) := by decide +kernel
theorem d_Me_init_14 : decode b_Me_init 14 = .ok (.putfield 17, 3) := by decide +kernel
theorem d_Me_init_17 : decode b_Me_init 17 = .ok (.iconst 0, 1) := by decide +kernel
theorem d_Me_init_18 : decode b_Me_init 18 = .ok (.istore_n 2, 1) := by decide +kernel
theorem d_Me_init_19 : decode b_Me_init 19 = .ok (.iload_n 2, 1) := by decide +kernel
theorem d_Me_init_20 : decode b_Me_init 20 = .ok (.iload_n 1, 1) := by decide +kernel
theorem d_Me_init_21 : decode b_Me_init 21 = .ok (.if_icmp .ge 22, 3) := by decide +kernel
theorem d_Me_init_43 : decode b_Me_init 43 = .ok (.return_, 1) := by decide +kernel
theorem d_Me_init_24 : decode b_Me_init 24 = .ok (.aload_n 0, 1) := by decide +kernel
theorem d_Me_init_25 : decode b_Me_init 25 = .ok (.getfield 17, 3) := by decide +kernel
theorem d_Me_init_28 : decode b_Me_init 28 = .ok (.iload_n 2, 1) := by decide +kernel
theorem d_Me_init_29 : decode b_Me_init 29 = .ok (.new 15, 3) := by decide +kernel
theorem d_Me_init_32 : decode b_Me_init 32 = .ok (.dup, 1) := by decide +kernel
theorem d_Me_init_33 : decode b_Me_init 33 = .ok (.invokespecial 21, 3) := by decide +kernel
theorem d_Me_init_36 : decode b_Me_init 36 = .ok (.aastore, 1) := by decide +kernel
theorem d_Me_init_37 : decode b_Me_init 37 = .ok (.iinc 2 1, 3) := by decide +kernel
theorem d_Me_init_40 : decode b_Me_init 40 = .ok (.goto (-21), 3) := by decide +kernel
theorem d_Ns_init_0 : decode b_Ns_init 0 = .ok (.aload_n 0, 1) := by decide +kernel
theorem d_Ns_init_1 : decode b_Ns_init 1 = .ok (.invokespecial 3, 3) := by decide +kernel
theorem d_Ns_init_4 : decode b_Ns_init 4 = .ok (.aload_n 0, 1) := by decide +kernel
theorem d_Ns_init_5 : decode b_Ns_init 5 = .ok (.bipush 30, 2) := by decide +kernel
theorem d_Ns_init_7 : decode b_Ns_init 7 = .ok (.anewarray 9, 3) := by decide +kernel
theorem d_Ns_init_10 : decode b_Ns_init 10 = .ok (.putfield 11, 3) := by decide +kernel
theorem d_Ns_init_13 : decode b_Ns_init 13 = .ok (.aload_n 0, 1) := by decide +kernel
theorem d_Ns_init_14 : decode b_Ns_init 14 = .ok (.bipush 30, 2) := by decide +kernel
theorem d_Ns_init_16 : decode b_Ns_init 16 = .ok (.anewarray 9, 3) := by decide +kernel
theorem d_Ns_init_19 : decode b_Ns_init 19 = .ok (.putfield 17, 3) := by decide +kernel
theorem d_Ns_init_22 : decode b_Ns_init 22 = .ok (.aload_n 0, 1) := by decide +kernel
theorem d_Ns_init_23 : decode b_Ns_init 23 = .ok (.iconst 1, 1) := by decide +kernel
theorem d_Ns_init_24 : decode b_Ns_init 24 = .ok (.putfield 20, 3) := by decide +kernel
theorem d_Ns_init_27 : decode b_Ns_init 27 = .ok (.aload_n 0, 1) := by decide +kernel
theorem d_Ns_init_28 : decode b_Ns_init 28 = .ok (.iconst 1, 1) := by decide +kernel
theorem d_Ns_init_29 : decode b_Ns_init 29 = .ok (.putfield 24, 3) := by decide +kernel
theorem d_Ns_init_32 : decode b_Ns_init 32 = .ok (.iconst 0, 1) := by decide +kernel
theorem d_Ns_init_33 : decode b_Ns_init 33 = .ok (.istore_n 1, 1) := by decide +kernel
theorem d_Ns_init_34 : decode b_Ns_init 34 = .ok (.iload_n 1, 1) := by decide +kernel
theorem d_Ns_init_35 : decode b_Ns_init 35 = .ok (.bipush 30, 2) := by decide +kernel
theorem d_Ns_init_37 : decode b_Ns_init 37 = .ok (.if_icmp .ge 34, 3) := by decide +kernel
theorem d_Ns_init_71 : decode b_Ns_init 71 = .ok (.return_, 1) := by decide +kernel
theorem d_Ns_init_40 : decode b_Ns_init 40 = .ok (.aload_n 0, 1) := by decide +kernel
theorem d_Ns_init_41 : decode b_Ns_init 41 = .ok (.getfield 11, 3) := by decide +kernel
theorem d_Ns_init_44 : decode b_Ns_init 44 = .ok (.iload_n 1, 1) := by decide +kernel
theorem d_Ns_init_45 : decode b_Ns_init 45 = .ok (.new 9, 3) := by decide +kernel
theorem d_Ns_init_48 : decode b_Ns_init 48 = .ok (.dup, 1) := by decide +kernel
theorem d_Ns_init_49 : decode b_Ns_init 49 = .ok (.invokespecial 27, 3) := by decide +kernel
theorem d_Ns_init_52 : decode b_Ns_init 52 = .ok (.aastore, 1) := by decide +kernel
theorem d_Ns_init_53 : decode b_Ns_init 53 = .ok (.aload_n 0, 1) := by decide +kernel
theorem d_Ns_init_54 : decode b_Ns_init 54 = .ok (.getfield 17, 3) := by decide +kernel
theorem d_Ns_init_57 : decode b_Ns_init 57 = .ok (.iload_n 1, 1) := by decide +kernel
theorem d_Ns_init_58 : decode b_Ns_init 58 = .ok (.aload_n 0, 1) := by decide +kernel
theorem d_Ns_init_59 : decode b_Ns_init 59 = .ok (.getfield 11, 3) := by decide +kernel
theorem d_Ns_init_62 : decode b_Ns_init 62 = .ok (.iload_n 1, 1) := by decide +kernel
theorem d_Ns_init_63 : decode b_Ns_init 63 = .ok (.aaload, 1) := by decide +kernel
theorem d_Ns_init_64 : decode b_Ns_init 64 = .ok (.aastore, 1) := by decide +kernel
theorem d_Ns_init_65 : decode b_Ns_init 65 = .ok (.iinc 1 1, 3) := by decide +kernel
theorem d_Ns_init_68 : decode b_Ns_init 68 = .ok (.goto (-34), 3) := by decide +kernel
theorem d_Wr_init_0 : decode b_Wr_init 0 = .ok (.aload_n 0, 1) := by decide +kernel
theorem d_Wr_init_1 : decode b_Wr_init 1 = .ok (.invokespecial 3, 3) := by decide +kernel
theorem d_Wr_init_4 : decode b_Wr_init 4 = .ok (.aload_n 0, 1) := by decide +kernel
theorem d_Wr_init_5 : decode b_Wr_init 5 = .ok (.new 9, 3) := by decide +kernel
theorem d_Wr_init_8 : decode b_Wr_init 8 = .ok (.dup, 1) := by decide +kernel
theorem d_Wr_init_9 : decode b_Wr_init 9 = .ok (.invokespecial 11, 3) := by decide +kernel
theorem d_Wr_init_12 : decode b_Wr_init 12 = .ok (.putfield 12, 3) := by decide +kernel
theorem d_Wr_init_15 : decode b_Wr_init 15 = .ok (.aload_n 0, 1) := by decide +kernel
theorem d_Wr_init_16 : decode b_Wr_init 16 = .ok (.new 18, 3) := by decide +kernel
theorem d_Wr_init_19 : decode b_Wr_init 19 = .ok (.dup, 1) := by decide +kernel
theorem d_Wr_init_20 : decode b_Wr_init 20 = .ok (.sipush 2048, 3) := by decide +kernel
theorem d_Wr_init_23 : decode b_Wr_init 23 = .ok (.invokespecial 20, 3) := by decide +kernel
theorem d_Wr_init_26 : decode b_Wr_init 26 = .ok (.putfield 23, 3) := by decide +kernel
theorem d_Wr_init_29 : decode b_Wr_init 29 = .ok (.return_, 1) := by decide +kernel
theorem d_Re_init_0 : decode b_Re_init 0 = .ok (.aload_n 0, 1) := by decide +kernel
theorem d_Re_init_1 : decode b_Re_init 1 = .ok (.invokespecial 3, 3) := by decide +kernel
theorem d_Re_init_4 : decode b_Re_init 4 = .ok (.aload_n 0, 1) := by decide +kernel
theorem d_Re_init_5 : decode b_Re_init 5 = .ok (.new 9, 3) := by decide +kernel
theorem d_Re_init_8 : decode b_Re_init 8 = .ok (.dup, 1) := by decide +kernel
theorem d_Re_init_9 : decode b_Re_init 9 = .ok (.sipush 480, 3) := by decide +kernel
theorem d_Re_init_12 : decode b_Re_init 12 = .ok (.invokespecial 11, 3) := by decide +kernel
theorem d_Re_init_15 : decode b_Re_init 15 = .ok (.putfield 14, 3) := by decide +kernel
theorem d_Re_init_18 : decode b_Re_init 18 = .ok (.aload_n 0, 1) := by decide +kernel
theorem d_Re_init_19 : decode b_Re_init 19 = .ok (.new 20, 3) := by decide +kernel
theorem d_Re_init_22 : decode b_Re_init 22 = .ok (.dup, 1) := by decide +kernel
theorem d_Re_init_23 : decode b_Re_init 23 = .ok (.invokespecial 22, 3) := by decide +kernel
theorem d_Re_init_26 : decode b_Re_init 26 = .ok (.putfield 23, 3) := by decide +kernel
theorem d_Re_init_29 : decode b_Re_init 29 = .ok (.aload_n 0, 1) := by decide +kernel
theorem d_Re_init_30 : decode b_Re_init 30 = .ok (.aconst_null, 1) := by decide +kernel
theorem d_Re_init_31 : decode b_Re_init 31 = .ok (.putfield 27, 3) := by decide +kernel
theorem d_Re_init_34 : decode b_Re_init 34 = .ok (.aload_n 0, 1) := by decide +kernel
theorem d_Re_init_35 : decode b_Re_init 35 = .ok (.aconst_null, 1) := by decide +kernel
theorem d_Re_init_36 : decode b_Re_init 36 = .ok (.putfield 31, 3) := by decide +kernel
theorem d_Re_init_39 : decode b_Re_init 39 = .ok (.aload_n 0, 1) := by decide +kernel
theorem d_Re_init_40 : decode b_Re_init 40 = .ok (.iconst 0, 1) := by decide +kernel
theorem d_Re_init_41 : decode b_Re_init 41 = .ok (.putfield 35, 3) := by decide +kernel
theorem d_Re_init_44 : decode b_Re_init 44 = .ok (.return_, 1) := by decide +kernel
theorem d_Pg_put_0 : decode b_Pg_put 0 = .ok (.iload_n 1, 1) := by decide +kernel
theorem d_Pg_put_1 : decode b_Pg_put 1 = .ok (.ifCond .lt 20, 3) := by decide +kernel
theorem d_Pg_put_21 : decode b_Pg_put 21 = .ok (.return_, 1) := by decide +kernel
theorem d_Pg_put_4 : decode b_Pg_put 4 = .ok (.iload_n 1, 1) := by decide +kernel
theorem d_Pg_put_5 : decode b_Pg_put 5 = .ok (.aload_n 0, 1) := by decide +kernel
theorem d_Pg_put_6 : decode b_Pg_put 6 = .ok (.getfield 9, 3) := by decide +kernel
theorem d_Pg_put_9 : decode b_Pg_put 9 = .ok (.arraylength, 1) := by decide +kernel
theorem d_Pg_put_10 : decode b_Pg_put 10 = .ok (.if_icmp .ge 11, 3) := by decide +kernel
theorem d_Pg_put_13 : decode b_Pg_put 13 = .ok (.aload_n 0, 1) := by decide +kernel
theorem d_Pg_put_14 : decode b_Pg_put 14 = .ok (.getfield 9, 3) := by decide +kernel
theorem d_Pg_put_17 : decode b_Pg_put 17 = .ok (.iload_n 1, 1) := by decide +kernel
theorem d_Pg_put_18 : decode b_Pg_put 18 = .ok (.iload_n 2, 1) := by decide +kernel
theorem d_Pg_put_19 : decode b_Pg_put 19 = .ok (.i2b, 1) := by decide +kernel
theorem d_Pg_put_20 : decode b_Pg_put 20 = .ok (.bastore, 1) := by decide +kernel
theorem d_Pg_putLow_0 : decode b_Pg_putLow 0 = .ok (.iconst 0, 1) := by decide +kernel
theorem d_Pg_putLow_1 : decode b_Pg_putLow 1 = .ok (.istore 4, 2) := by decide +kernel
theorem d_Pg_putLow_3 : decode b_Pg_putLow 3 = .ok (.iload 4, 2) := by decide +kernel
theorem d_Pg_putLow_5 : decode b_Pg_putLow 5 = .ok (.iload_n 2, 1) := by decide +kernel
theorem d_Pg_putLow_6 : decode b_Pg_putLow 6 = .ok (.if_icmp .ge 24, 3) := by decide +kernel
theorem d_Pg_putLow_30 : decode b_Pg_putLow 30 = .ok (.return_, 1) := by decide +kernel
theorem d_Pg_putLow_9 : decode b_Pg_putLow 9 = .ok (.aload_n 0, 1) := by decide +kernel
theorem d_Pg_putLow_10 : decode b_Pg_putLow 10 = .ok (.iload_n 1, 1) := by decide +kernel
theorem d_Pg_putLow_11 : decode b_Pg_putLow 11 = .ok (.iload 4, 2) := by decide +kernel
theorem d_Pg_putLow_13 : decode b_Pg_putLow 13 = .ok (.iadd, 1) := by decide +kernel
theorem d_Pg_putLow_14 : decode b_Pg_putLow 14 = .ok (.iload_n 3, 1) := by decide +kernel
theorem d_Pg_putLow_15 : decode b_Pg_putLow 15 = .ok (.bipush 8, 2) := by decide +kernel
theorem d_Pg_putLow_17 : decode b_Pg_putLow 17 = .ok (.iload 4, 2) := by decide +kernel
theorem d_Pg_putLow_19 : decode b_Pg_putLow 19 = .ok (.imul, 1) := by decide +kernel
theorem d_Pg_putLow_20 : decode b_Pg_putLow 20 = .ok (.ishr, 1) := by decide +kernel
theorem d_Pg_putLow_21 : decode b_Pg_putLow 21 = .ok (.invokevirtual 31, 3) := by decide +kernel
theorem d_Pg_putLow_24 : decode b_Pg_putLow 24 = .ok (.iinc 4 1, 3) := by decide +kernel
theorem d_Pg_putLow_27 : decode b_Pg_putLow 27 = .ok (.goto (-24), 3) := by decide +kernel
theorem d_Pg_putHigh_0 : decode b_Pg_putHigh 0 = .ok (.iconst 0, 1) := by decide +kernel
theorem d_Pg_putHigh_1 : decode b_Pg_putHigh 1 = .ok (.istore 4, 2) := by decide +kernel
theorem d_Pg_putHigh_3 : decode b_Pg_putHigh 3 = .ok (.iload 4, 2) := by decide +kernel
theorem d_Pg_putHigh_5 : decode b_Pg_putHigh 5 = .ok (.iload_n 2, 1) := by decide +kernel
theorem d_Pg_putHigh_6 : decode b_Pg_putHigh 6 = .ok (.if_icmp .ge 28, 3) := by decide +kernel
theorem d_Pg_putHigh_34 : decode b_Pg_putHigh 34 = .ok (.return_, 1) := by decide +kernel
theorem d_Pg_putHigh_9 : decode b_Pg_putHigh 9 = .ok (.aload_n 0, 1) := by decide +kernel
theorem d_Pg_putHigh_10 : decode b_Pg_putHigh 10 = .ok (.iload_n 1, 1) := by decide +kernel
theorem d_Pg_putHigh_11 : decode b_Pg_putHigh 11 = .ok (.iload_n 2, 1) := by decide +kernel
theorem d_Pg_putHigh_12 : decode b_Pg_putHigh 12 = .ok (.iadd, 1) := by decide +kernel
theorem d_Pg_putHigh_13 : decode b_Pg_putHigh 13 = .ok (.iconst 1, 1) := by decide +kernel
theorem d_Pg_putHigh_14 : decode b_Pg_putHigh 14 = .ok (.isub, 1) := by decide +kernel
theorem d_Pg_putHigh_15 : decode b_Pg_putHigh 15 = .ok (.iload 4, 2) := by decide +kernel
theorem d_Pg_putHigh_17 : decode b_Pg_putHigh 17 = .ok (.isub, 1) := by decide +kernel
theorem d_Pg_putHigh_18 : decode b_Pg_putHigh 18 = .ok (.iload_n 3, 1) := by decide +kernel
theorem d_Pg_putHigh_19 : decode b_Pg_putHigh 19 = .ok (.bipush 8, 2) := by decide +kernel
theorem d_Pg_putHigh_21 : decode b_Pg_putHigh 21 = .ok (.iload 4, 2) := by decide +kernel
theorem d_Pg_putHigh_23 : decode b_Pg_putHigh 23 = .ok (.imul, 1) := by decide +kernel
theorem d_Pg_putHigh_24 : decode b_Pg_putHigh 24 = .ok (.ishr, 1) := by decide +kernel
theorem d_Pg_putHigh_25 : decode b_Pg_putHigh 25 = .ok (.invokevirtual 31, 3) := by decide +kernel
theorem d_Pg_putHigh_28 : decode b_Pg_putHigh 28 = .ok (.iinc 4 1, 3) := by decide +kernel
theorem d_Pg_putHigh_31 : decode b_Pg_putHigh 31 = .ok (.goto (-28), 3) := by decide +kernel
theorem d_Pg_putBoth_0 : decode b_Pg_putBoth 0 = .ok (.iconst 0, 1) := by decide +kernel
theorem d_Pg_putBoth_1 : decode b_Pg_putBoth 1 = .ok (.istore 4, 2) := by decide +kernel
theorem d_Pg_putBoth_3 : decode b_Pg_putBoth 3 = .ok (.iload 4, 2) := by decide +kernel
theorem d_Pg_putBoth_5 : decode b_Pg_putBoth 5 = .ok (.iload_n 2, 1) := by decide +kernel
theorem d_Pg_putBoth_6 : decode b_Pg_putBoth 6 = .ok (.if_icmp .ge 45, 3) := by decide +kernel
theorem d_Pg_putBoth_51 : decode b_Pg_putBoth 51 = .ok (.return_, 1) := by decide +kernel
theorem d_Pg_putBoth_9 : decode b_Pg_putBoth 9 = .ok (.aload_n 0, 1) := by decide +kernel
theorem d_Pg_putBoth_10 : decode b_Pg_putBoth 10 = .ok (.iload_n 1, 1) := by decide +kernel
theorem d_Pg_putBoth_11 : decode b_Pg_putBoth 11 = .ok (.iload 4, 2) := by decide +kernel
theorem d_Pg_putBoth_13 : decode b_Pg_putBoth 13 = .ok (.iadd, 1) := by decide +kernel
theorem d_Pg_putBoth_14 : decode b_Pg_putBoth 14 = .ok (.iload_n 3, 1) := by decide +kernel
theorem d_Pg_putBoth_15 : decode b_Pg_putBoth 15 = .ok (.bipush 8, 2) := by decide +kernel
theorem d_Pg_putBoth_17 : decode b_Pg_putBoth 17 = .ok (.iload 4, 2) := by decide +kernel
theorem d_Pg_putBoth_19 : decode b_Pg_putBoth 19 = .ok (.imul, 1) := by decide +kernel
theorem d_Pg_putBoth_20 : decode b_Pg_putBoth 20 = .ok (.ishr, 1) := by decide +kernel
theorem d_Pg_putBoth_21 : decode b_Pg_putBoth 21 = .ok (.invokevirtual 31, 3) := by decide +kernel
theorem d_Pg_putBoth_24 : decode b_Pg_putBoth 24 = .ok (.aload_n 0, 1) := by decide +kernel
theorem d_Pg_putBoth_25 : decode b_Pg_putBoth 25 = .ok (.iload_n 1, 1) := by decide +kernel
theorem d_Pg_putBoth_26 : decode b_Pg_putBoth 26 = .ok (.iconst 2, 1) := by decide +kernel
theorem d_Pg_putBoth_27 : decode b_Pg_putBoth 27 = .ok (.iload_n 2, 1) := by decide +kernel
theorem d_Pg_putBoth_28 : decode b_Pg_putBoth 28 = .ok (.imul, 1) := by decide +kernel
theorem d_Pg_putBoth_29 : decode b_Pg_putBoth 29 = .ok (.iadd, 1) := by decide +kernel
theorem d_Pg_putBoth_30 : decode b_Pg_putBoth 30 = .ok (.iconst 1, 1) := by decide +kernel
theorem d_Pg_putBoth_31 : decode b_Pg_putBoth 31 = .ok (.isub, 1) := by decide +kernel
theorem d_Pg_putBoth_32 : decode b_Pg_putBoth 32 = .ok (.iload 4, 2) := by decide +kernel
theorem d_Pg_putBoth_34 : decode b_Pg_putBoth 34 = .ok (.isub, 1) := by decide +kernel
theorem d_Pg_putBoth_35 : decode b_Pg_putBoth 35 = .ok (.iload_n 3, 1) := by decide +kernel
theorem d_Pg_putBoth_36 : decode b_Pg_putBoth 36 = .ok (.bipush 8, 2) := by decide +kernel
theorem d_Pg_putBoth_38 : decode b_Pg_putBoth 38 = .ok (.iload 4, 2) := by decide +kernel
theorem d_Pg_putBoth_40 : decode b_Pg_putBoth 40 = .ok (.imul, 1) := by decide +kernel
theorem d_Pg_putBoth_41 : decode b_Pg_putBoth 41 = .ok (.ishr, 1) := by decide +kernel
theorem d_Pg_putBoth_42 : decode b_Pg_putBoth 42 = .ok (.invokevirtual 31, 3) := by decide +kernel
theorem d_Pg_putBoth_45 : decode b_Pg_putBoth 45 = .ok (.iinc 4 1, 3) := by decide +kernel
theorem d_Pg_putBoth_48 : decode b_Pg_putBoth 48 = .ok (.goto (-45), 3) := by decide +kernel
