set_option maxRecDepth 100000 in
theorem mw_634 : Cond.code y_Mo_lettersOf b_Mo_lettersOf 3 (some .int) ∈ lw_g := lw_gin (List.mem_append_right _ (List.mem_of_getElem? (i := 1160) rfl)) (by decide +kernel)
set_option maxRecDepth 100000 in
theorem mw_635 : Cond.methodLink R_Mo 165 y_Mo_lettersOf ∈ lw_g := lw_gin (List.mem_append_right _ (List.mem_of_getElem? (i := 1158) rfl)) (by decide +kernel)
set_option maxRecDepth 100000 in
theorem mw_636 : Cond.static y_Mo_lettersOf ∈ lw_g := lw_gin (List.mem_append_right _ (List.mem_of_getElem? (i := 1159) rfl)) (by decide +kernel)
set_option maxRecDepth 100000 in
theorem mw_637 : Cond.code y_Mo_letter b_Mo_letter 3 (some .int) ∈ lw_g := lw_gin (List.mem_append_right _ (List.mem_of_getElem? (i := 1163) rfl)) (by decide +kernel)
set_option maxRecDepth 100000 in
theorem mw_638 : Cond.methodLink R_Mo 169 y_Mo_letter ∈ lw_g := lw_gin (List.mem_append_right _ (List.mem_of_getElem? (i := 1161) rfl)) (by decide +kernel)
set_option maxRecDepth 100000 in
theorem mw_639 : Cond.static y_Mo_letter ∈ lw_g := lw_gin (List.mem_append_right _ (List.mem_of_getElem? (i := 1162) rfl)) (by decide +kernel)
set_option maxRecDepth 100000 in
theorem mw_640 : Cond.code y_Mo_idByte b_Mo_idByte 5 (some .int) ∈ lw_g := lw_gin (List.mem_append_right _ (List.mem_of_getElem? (i := 1157) rfl)) (by decide +kernel)
set_option maxRecDepth 100000 in
theorem mw_641 : Cond.methodLink R_Mo 173 y_Mo_idByte ∈ lw_g := lw_gin (List.mem_append_right _ (List.mem_of_getElem? (i := 1155) rfl)) (by decide +kernel)
set_option maxRecDepth 100000 in
theorem mw_642 : Cond.static y_Mo_idByte ∈ lw_g := lw_gin (List.mem_append_right _ (List.mem_of_getElem? (i := 1156) rfl)) (by decide +kernel)
set_option maxRecDepth 100000 in
theorem mw_643 : Cond.code y_Mo_compare b_Mo_compare 8 (some .int) ∈ lw_g := lw_gin (List.mem_append_right _ (List.mem_of_getElem? (i := 1154) rfl)) (by decide +kernel)
set_option maxRecDepth 100000 in
theorem mw_644 : Cond.methodLink R_Mo 177 y_Mo_compare ∈ lw_g := lw_gin (List.mem_append_right _ (List.mem_of_getElem? (i := 1152) rfl)) (by decide +kernel)
set_option maxRecDepth 100000 in
theorem mw_645 : Cond.static y_Mo_compare ∈ lw_g := lw_gin (List.mem_append_right _ (List.mem_of_getElem? (i := 1153) rfl)) (by decide +kernel)
theorem d_Mo_lettersOf_0 : decode b_Mo_lettersOf 0 = .ok (.iconst 0, 1) := by decide +kernel
theorem d_Mo_lettersOf_1 : decode b_Mo_lettersOf 1 = .ok (.istore_n 2, 1) := by decide +kernel
theorem d_Mo_lettersOf_2 : decode b_Mo_lettersOf 2 = .ok (.iload_n 2, 1) := by decide +kernel
theorem d_Mo_lettersOf_3 : decode b_Mo_lettersOf 3 = .ok (.bipush 8, 2) := by decide +kernel
theorem d_Mo_lettersOf_5 : decode b_Mo_lettersOf 5 = .ok (.if_icmp .ge 20, 3) := by decide +kernel
theorem d_Mo_lettersOf_25 : decode b_Mo_lettersOf 25 = .ok (.iload_n 2, 1) := by decide +kernel
theorem d_Mo_lettersOf_26 : decode b_Mo_lettersOf 26 = .ok (.ireturn, 1) := by decide +kernel
theorem d_Mo_lettersOf_8 : decode b_Mo_lettersOf 8 = .ok (.lload_n 0, 1) := by decide +kernel
theorem d_Mo_lettersOf_9 : decode b_Mo_lettersOf 9 = .ok (.bipush 8, 2) := by decide +kernel
theorem d_Mo_lettersOf_11 : decode b_Mo_lettersOf 11 = .ok (.iload_n 2, 1) := by decide +kernel
theorem d_Mo_lettersOf_12 : decode b_Mo_lettersOf 12 = .ok (.imul, 1) := by decide +kernel
theorem d_Mo_lettersOf_13 : decode b_Mo_lettersOf 13 = .ok (.lushr, 1) := by decide +kernel
theorem d_Mo_lettersOf_14 : decode b_Mo_lettersOf 14 = .ok (.lconst 0, 1) := by decide +kernel
theorem d_Mo_lettersOf_15 : decode b_Mo_lettersOf 15 = .ok (.lcmp, 1) := by decide +kernel
theorem d_Mo_lettersOf_16 : decode b_Mo_lettersOf 16 = .ok (.ifCond .eq 9, 3) := by decide +kernel
theorem d_Mo_lettersOf_19 : decode b_Mo_lettersOf 19 = .ok (.iinc 2 1, 3) := by decide +kernel
theorem d_Mo_lettersOf_22 : decode b_Mo_lettersOf 22 = .ok (.goto (-20), 3) := by decide +kernel
theorem d_Mo_letter_0 : decode b_Mo_letter 0 = .ok (.lload_n 0, 1) := by decide +kernel
theorem d_Mo_letter_1 : decode b_Mo_letter 1 = .ok (.bipush 8, 2) := by decide +kernel
theorem d_Mo_letter_3 : decode b_Mo_letter 3 = .ok (.lload_n 0, 1) := by decide +kernel
theorem d_Mo_letter_4 : decode b_Mo_letter 4 = .ok (.invokestatic 165, 3) := by decide +kernel
theorem d_Mo_letter_7 : decode b_Mo_letter 7 = .ok (.iconst 1, 1) := by decide +kernel
theorem d_Mo_letter_8 : decode b_Mo_letter 8 = .ok (.isub, 1) := by decide +kernel
theorem d_Mo_letter_9 : decode b_Mo_letter 9 = .ok (.iload_n 2, 1) := by decide +kernel
theorem d_Mo_letter_10 : decode b_Mo_letter 10 = .ok (.isub, 1) := by decide +kernel
theorem d_Mo_letter_11 : decode b_Mo_letter 11 = .ok (.imul, 1) := by decide +kernel
theorem d_Mo_letter_12 : decode b_Mo_letter 12 = .ok (.lushr, 1) := by decide +kernel
theorem d_Mo_letter_13 : decode b_Mo_letter 13 = .ok (.ldc2_w 129, 3) := by decide +kernel
theorem d_Mo_letter_16 : decode b_Mo_letter 16 = .ok (.land, 1) := by decide +kernel
theorem d_Mo_letter_17 : decode b_Mo_letter 17 = .ok (.l2i, 1) := by decide +kernel
theorem d_Mo_letter_18 : decode b_Mo_letter 18 = .ok (.ireturn, 1) := by decide +kernel
theorem d_Mo_idSize_0 : decode b_Mo_idSize 0 = .ok (.iload_n 2, 1) := by decide +kernel
theorem d_Mo_idSize_1 : decode b_Mo_idSize 1 = .ok (.ifCond .eq 10, 3) := by decide +kernel
theorem d_Mo_idSize_11 : decode b_Mo_idSize 11 = .ok (.lload_n 0, 1) := by decide +kernel
theorem d_Mo_idSize_12 : decode b_Mo_idSize 12 = .ok (.invokestatic 165, 3) := by decide +kernel
theorem d_Mo_idSize_15 : decode b_Mo_idSize 15 = .ok (.iconst 3, 1) := by decide +kernel
theorem d_Mo_idSize_16 : decode b_Mo_idSize 16 = .ok (.iadd, 1) := by decide +kernel
theorem d_Mo_idSize_17 : decode b_Mo_idSize 17 = .ok (.ireturn, 1) := by decide +kernel
theorem d_Mo_idSize_4 : decode b_Mo_idSize 4 = .ok (.lload_n 0, 1) := by decide +kernel
theorem d_Mo_idSize_5 : decode b_Mo_idSize 5 = .ok (.invokestatic 165, 3) := by decide +kernel
theorem d_Mo_idSize_8 : decode b_Mo_idSize 8 = .ok (.goto 9, 3) := by decide +kernel
theorem d_Mo_idByte_0 : decode b_Mo_idByte 0 = .ok (.lload_n 0, 1) := by decide +kernel
theorem d_Mo_idByte_1 : decode b_Mo_idByte 1 = .ok (.invokestatic 165, 3) := by decide +kernel
theorem d_Mo_idByte_4 : decode b_Mo_idByte 4 = .ok (.istore 4, 2) := by decide +kernel
theorem d_Mo_idByte_6 : decode b_Mo_idByte 6 = .ok (.iload_n 3, 1) := by decide +kernel
theorem d_Mo_idByte_7 : decode b_Mo_idByte 7 = .ok (.iload 4, 2) := by decide +kernel
theorem d_Mo_idByte_9 : decode b_Mo_idByte 9 = .ok (.if_icmp .ge 9, 3) := by decide +kernel
theorem d_Mo_idByte_18 : decode b_Mo_idByte 18 = .ok (.iload_n 2, 1) := by decide +kernel
theorem d_Mo_idByte_19 : decode b_Mo_idByte 19 = .ok (.ifCond .ne 11, 3) := by decide +kernel
theorem d_Mo_idByte_30 : decode b_Mo_idByte 30 = .ok (.iconst 0, 1) := by decide +kernel
theorem d_Mo_idByte_31 : decode b_Mo_idByte 31 = .ok (.goto 29, 3) := by decide +kernel
theorem d_Mo_idByte_60 : decode b_Mo_idByte 60 = .ok (.ireturn, 1) := by decide +kernel
theorem d_Mo_idByte_22 : decode b_Mo_idByte 22 = .ok (.iload_n 3, 1) := by decide +kernel
theorem d_Mo_idByte_23 : decode b_Mo_idByte 23 = .ok (.iload 4, 2) := by decide +kernel
theorem d_Mo_idByte_25 : decode b_Mo_idByte 25 = .ok (.iconst 2, 1) := by decide +kernel
theorem d_Mo_idByte_26 : decode b_Mo_idByte 26 = .ok (.iadd, 1) := by decide +kernel
theorem d_Mo_idByte_27 : decode b_Mo_idByte 27 = .ok (.if_icmp .le 7, 3) := by decide +kernel
theorem d_Mo_idByte_34 : decode b_Mo_idByte 34 = .ok (.iload_n 3, 1) := by decide +kernel
theorem d_Mo_idByte_35 : decode b_Mo_idByte 35 = .ok (.iload 4, 2) := by decide +kernel
theorem d_Mo_idByte_37 : decode b_Mo_idByte 37 = .ok (.if_icmp .ne 8, 3) := by decide +kernel
theorem d_Mo_idByte_45 : decode b_Mo_idByte 45 = .ok (.iload_n 3, 1) := by decide +kernel
theorem d_Mo_idByte_46 : decode b_Mo_idByte 46 = .ok (.iload 4, 2) := by decide +kernel
theorem d_Mo_idByte_48 : decode b_Mo_idByte 48 = .ok (.iconst 1, 1) := by decide +kernel
theorem d_Mo_idByte_49 : decode b_Mo_idByte 49 = .ok (.iadd, 1) := by decide +kernel
theorem d_Mo_idByte_50 : decode b_Mo_idByte 50 = .ok (.if_icmp .ne 8, 3) := by decide +kernel
theorem d_Mo_idByte_58 : decode b_Mo_idByte 58 = .ok (.bipush 49, 2) := by decide +kernel
theorem d_Mo_idByte_53 : decode b_Mo_idByte 53 = .ok (.bipush 59, 2) := by decide +kernel
theorem d_Mo_idByte_55 : decode b_Mo_idByte 55 = .ok (.goto 5, 3) := by decide +kernel
theorem d_Mo_idByte_40 : decode b_Mo_idByte 40 = .ok (.bipush 46, 2) := by decide +kernel
theorem d_Mo_idByte_42 : decode b_Mo_idByte 42 = .ok (.goto 18, 3) := by decide +kernel
theorem d_Mo_idByte_12 : decode b_Mo_idByte 12 = .ok (.lload_n 0, 1) := by decide +kernel
theorem d_Mo_idByte_13 : decode b_Mo_idByte 13 = .ok (.iload_n 3, 1) := by decide +kernel
theorem d_Mo_idByte_14 : decode b_Mo_idByte 14 = .ok (.invokestatic 169, 3) := by decide +kernel
theorem d_Mo_idByte_17 : decode b_Mo_idByte 17 = .ok (.ireturn, 1) := by decide +kernel
theorem d_Mo_compare_0 : decode b_Mo_compare 0 = .ok (.iconst 0, 1) := by decide +kernel
theorem d_Mo_compare_1 : decode b_Mo_compare 1 = .ok (.istore 6, 2) := by decide +kernel
theorem d_Mo_compare_3 : decode b_Mo_compare 3 = .ok (.iload 6, 2) := by decide +kernel
theorem d_Mo_compare_5 : decode b_Mo_compare 5 = .ok (.bipush 12, 2) := by decide +kernel
theorem d_Mo_compare_7 : decode b_Mo_compare 7 = .ok (.if_icmp .ge 35, 3) := by decide +kernel
theorem d_Mo_compare_42 : decode b_Mo_compare 42 = .ok (.iconst 0, 1) := by decide +kernel
theorem d_Mo_compare_43 : decode b_Mo_compare 43 = .ok (.ireturn, 1) := by decide +kernel
theorem d_Mo_compare_10 : decode b_Mo_compare 10 = .ok (.lload_n 0, 1) := by decide +kernel
theorem d_Mo_compare_11 : decode b_Mo_compare 11 = .ok (.iload_n 2, 1) := by decide +kernel
theorem d_Mo_compare_12 : decode b_Mo_compare 12 = .ok (.iload 6, 2) := by decide +kernel
theorem d_Mo_compare_14 : decode b_Mo_compare 14 = .ok (.invokestatic 173, 3) := by decide +kernel
theorem d_Mo_compare_17 : decode b_Mo_compare 17 = .ok (.lload_n 3, 1) := by decide +kernel
theorem d_Mo_compare_18 : decode b_Mo_compare 18 = .ok (.iload 5, 2) := by decide +kernel
theorem d_Mo_compare_20 : decode b_Mo_compare 20 = .ok (.iload 6, 2) := by decide +kernel
theorem d_Mo_compare_22 : decode b_Mo_compare 22 = .ok (.invokestatic 173, 3) := by decide +kernel
theorem d_Mo_compare_25 : decode b_Mo_compare 25 = .ok (.isub, 1) := by decide +kernel
theorem d_Mo_compare_26 : decode b_Mo_compare 26 = .ok (.istore 7, 2) := by decide +kernel
theorem d_Mo_compare_28 : decode b_Mo_compare 28 = .ok (.iload 7, 2) := by decide +kernel
theorem d_Mo_compare_30 : decode b_Mo_compare 30 = .ok (.ifCond .eq 6, 3) := by decide +kernel
theorem d_Mo_compare_36 : decode b_Mo_compare 36 = .ok (.iinc 6 1, 3) := by decide +kernel
theorem d_Mo_compare_39 : decode b_Mo_compare 39 = .ok (.goto (-36), 3) := by decide +kernel
theorem d_Mo_compare_33 : decode b_Mo_compare 33 = .ok (.iload 7, 2) := by decide +kernel
theorem d_Mo_compare_35 : decode b_Mo_compare 35 = .ok (.ireturn, 1) := by decide +kernel
theorem d_Mo_next_0 : decode b_Mo_next 0 = .ok (.iconst (-1), 1) := by decide +kernel
theorem d_Mo_next_1 : decode b_Mo_next 1 = .ok (.istore_n 3, 1) := by decide +kernel
theorem d_Mo_next_2 : decode b_Mo_next 2 = .ok (.iconst 1, 1) := by decide +kernel
theorem d_Mo_next_3 : decode b_Mo_next 3 = .ok (.istore 4, 2) := by decide +kernel
theorem d_Mo_next_5 : decode b_Mo_next 5 = .ok (.iload 4, 2) := by decide +kernel
theorem d_Mo_next_7 : decode b_Mo_next 7 = .ok (.aload_n 0, 1) := by decide +kernel
theorem d_Mo_next_8 : decode b_Mo_next 8 = .ok (.getfield 112, 3) := by decide +kernel
theorem d_Mo_next_11 : decode b_Mo_next 11 = .ok (.if_icmp .ge 108, 3) := by decide +kernel
theorem d_Mo_next_119 : decode b_Mo_next 119 = .ok (.iload_n 3, 1) := by decide +kernel
theorem d_Mo_next_120 : decode b_Mo_next 120 = .ok (.ireturn, 1) := by decide +kernel
theorem d_Mo_next_14 : decode b_Mo_next 14 = .ok (.aload_n 0, 1) := by decide +kernel
theorem d_Mo_next_15 : decode b_Mo_next 15 = .ok (.getfield 24, 3) := by decide +kernel
theorem d_Mo_next_18 : decode b_Mo_next 18 = .ok (.iload 4, 2) := by decide +kernel
theorem d_Mo_next_20 : decode b_Mo_next 20 = .ok (.baload, 1) := by decide +kernel
theorem d_Mo_next_21 : decode b_Mo_next 21 = .ok (.ifCond .eq 92, 3) := by decide +kernel
theorem d_Mo_next_113 : decode b_Mo_next 113 = .ok (.iinc 4 1, 3) := by decide +kernel
theorem d_Mo_next_116 : decode b_Mo_next 116 = .ok (.goto (-111), 3) := by decide +kernel
theorem d_Mo_next_24 : decode b_Mo_next 24 = .ok (.aload_n 0, 1) := by decide +kernel
theorem d_Mo_next_25 : decode b_Mo_next 25 = .ok (.getfield 30, 3) := by decide +kernel
theorem d_Mo_next_28 : decode b_Mo_next 28 = .ok (.iload 4, 2) := by decide +kernel
theorem d_Mo_next_30 : decode b_Mo_next 30 = .ok (.iaload, 1) := by decide +kernel
theorem d_Mo_next_31 : decode b_Mo_next 31 = .ok (.iload_n 1, 1) := by decide +kernel
theorem d_Mo_next_32 : decode b_Mo_next 32 = .ok (.if_icmp .ne 81, 3) := by decide +kernel
theorem d_Mo_next_35 : decode b_Mo_next 35 = .ok (.iload_n 2, 1) := by decide +kernel
theorem d_Mo_next_36 : decode b_Mo_next 36 = .ok (.ifCond .lt 38, 3) := by decide +kernel
theorem d_Mo_next_74 : decode b_Mo_next 74 = .ok (.iload_n 3, 1) := by decide +kernel
theorem d_Mo_next_75 : decode b_Mo_next 75 = .ok (.ifCond .lt 35, 3) := by decide +kernel
theorem d_Mo_next_110 : decode b_Mo_next 110 = .ok (.iload 4, 2) := by decide +kernel
theorem d_Mo_next_112 : decode b_Mo_next 112 = .ok (.istore_n 3, 1) := by decide +kernel
theorem d_Mo_next_78 : decode b_Mo_next 78 = .ok (.aload_n 0, 1) := by decide +kernel
theorem d_Mo_next_79 : decode b_Mo_next 79 = .ok (.getfield 34, 3) := by decide +kernel
theorem d_Mo_next_82 : decode b_Mo_next 82 = .ok (.iload 4, 2) := by decide +kernel
theorem d_Mo_next_84 : decode b_Mo_next 84 = .ok (.laload, 1) := by decide +kernel
theorem d_Mo_next_85 : decode b_Mo_next 85 = .ok (.aload_n 0, 1) := by decide +kernel
theorem d_Mo_next_86 : decode b_Mo_next 86 = .ok (.getfield 27, 3) := by decide +kernel
theorem d_Mo_next_89 : decode b_Mo_next 89 = .ok (.iload 4, 2) := by decide +kernel
theorem d_Mo_next_91 : decode b_Mo_next 91 = .ok (.baload, 1) := by decide +kernel
theorem d_Mo_next_92 : decode b_Mo_next 92 = .ok (.aload_n 0, 1) := by decide +kernel
theorem d_Mo_next_93 : decode b_Mo_next 93 = .ok (.getfield 34, 3) := by decide +kernel
theorem d_Mo_next_96 : decode b_Mo_next 96 = .ok (.iload_n 3, 1) := by decide +kernel
theorem d_Mo_next_97 : decode b_Mo_next 97 = .ok (.laload, 1) := by decide +kernel
theorem d_Mo_next_98 : decode b_Mo_next 98 = .ok (.aload_n 0, 1) := by decide +kernel
theorem d_Mo_next_99 : decode b_Mo_next 99 = .ok (.getfield 27, 3) := by decide +kernel
theorem d_Mo_next_102 : decode b_Mo_next 102 = .ok (.iload_n 3, 1) := by decide +kernel
theorem d_Mo_next_103 : decode b_Mo_next 103 = .ok (.baload, 1) := by decide +kernel
theorem d_Mo_next_104 : decode b_Mo_next 104 = .ok (.invokestatic 177, 3) := by decide +kernel
theorem d_Mo_next_107 : decode b_Mo_next 107 = .ok (.ifCond .ge 6, 3) := by decide +kernel
theorem d_Mo_next_39 : decode b_Mo_next 39 = .ok (.aload_n 0, 1) := by decide +kernel
theorem d_Mo_next_40 : decode b_Mo_next 40 = .ok (.getfield 34, 3) := by decide +kernel
theorem d_Mo_next_43 : decode b_Mo_next 43 = .ok (.iload 4, 2) := by decide +kernel
theorem d_Mo_next_45 : decode b_Mo_next 45 = .ok (.laload, 1) := by decide +kernel
theorem d_Mo_next_46 : decode b_Mo_next 46 = .ok (.aload_n 0, 1) := by decide +kernel
theorem d_Mo_next_47 : decode b_Mo_next 47 = .ok (.getfield 27, 3) := by decide +kernel
theorem d_Mo_next_50 : decode b_Mo_next 50 = .ok (.iload 4, 2) := by decide +kernel
theorem d_Mo_next_52 : decode b_Mo_next 52 = .ok (.baload, 1) := by decide +kernel
theorem d_Mo_next_53 : decode b_Mo_next 53 = .ok (.aload_n 0, 1) := by decide +kernel
theorem d_Mo_next_54 : decode b_Mo_next 54 = .ok (.getfield 34, 3) := by decide +kernel
theorem d_Mo_next_57 : decode b_Mo_next 57 = .ok (.iload_n 2, 1) := by decide +kernel
theorem d_Mo_next_58 : decode b_Mo_next 58 = .ok (.laload, 1) := by decide +kernel
theorem d_Mo_next_59 : decode b_Mo_next 59 = .ok (.aload_n 0, 1) := by decide +kernel
theorem d_Mo_next_60 : decode b_Mo_next 60 = .ok (.getfield 27, 3) := by decide +kernel
theorem d_Mo_next_63 : decode b_Mo_next 63 = .ok (.iload_n 2, 1) := by decide +kernel
theorem d_Mo_next_64 : decode b_Mo_next 64 = .ok (.baload, 1) := by decide +kernel
theorem d_Mo_next_65 : decode b_Mo_next 65 = .ok (.invokestatic 177, 3) := by decide +kernel
theorem d_Mo_next_68 : decode b_Mo_next 68 = .ok (.ifCond .gt 6, 3) := by decide +kernel
theorem d_Mo_next_71 : decode b_Mo_next 71 = .ok (.goto 42, 3) := by decide +kernel
/-- who is still behind b in d -/
noncomputable def rmB (it di pa : Nat → Int32) (nm : Nat → Int64) (d b : Int32) : Nat → Bool := fun k => @decide (it k = 1 ∧ 1 ≤ k ∧ pa k = d ∧ (0 ≤ b.toInt → gtK (kyF nm di k) (kyF nm di b.toInt.toNat))) (Classical.propDecidable _)
theorem rmB_iff {it di pa : Nat → Int32} {nm : Nat → Int64} {d b : Int32} {k : Nat} : rmB it di pa nm d b k = true ↔ (it k = 1 ∧ 1 ≤ k ∧ pa k = d ∧ (0 ≤ b.toInt → gtK (kyF nm di k) (kyF nm di b.toInt.toNat))) := by
  unfold rmB
  exact @decide_eq_true_iff _ (Classical.propDecidable _)
theorem rm_next {it di pa : Nat → Int32} {nm : Nat → Int64} {m : Nat} {ma d b r : Int32} (hm : m = ma.toInt.toNat) (h : nxP it di pa nm ma.toInt d b r) (hr : 0 ≤ r.toInt) : cntP (rmB it di pa nm d r) m + 1 ≤ cntP (rmB it di pa nm d b) m := by
  rcases h with rfl | ⟨h1, h2, h3, h4, h5⟩
  · exact absurd hr (by decide)
  · refine cnt_lt (k := r.toInt.toNat) (fun i _ hi => ?_) (by omega) (rmB_iff.mpr ⟨h3, by omega, h4, h5⟩) (fun z => gtK_ir ((rmB_iff.mp z).2.2.2 hr))
    obtain ⟨g1, g2, g3, g4⟩ := rmB_iff.mp hi
    exact rmB_iff.mpr ⟨g1, g2, g3, fun hb => gtK_tr (g4 hr) (h5 hb)⟩
theorem rm_30 {it di pa : Nat → Int32} {nm : Nat → Int64} {m : Nat} {d b : Int32} (hT : treeM it pa m) : cntP (rmB it di pa nm d b) m ≤ 30 :=
  Nat.le_trans (cnt_mono (fun i _ hi => by unfold alB; rw [(rmB_iff.mp hi).1]; decide)) hT.2.2.1
/-- along: where it stands -/
def alI (it di pa : Nat → Int32) (nm : Nat → Int64) (m : Nat) (d p so k : Int32) (c : Nat) : Prop :=
  (so.toInt = 0 ∧ p.toInt = 0) ∨ (so.toInt = 1 ∧ p.toInt = 34) ∨ (so.toInt = 2 ∧ 68 ≤ p.toInt ∧ p.toInt ≤ 68 + 44 * c ∧ c + cntP (rmB it di pa nm d k) m ≤ 30)
/-! the table of directories -/
def tbA (it : Nat → Int32) (m : Nat) (T : Nat → Int32) (D : Nat) : Prop := T 0 = 0 ∧ (∀ j, j < D → 0 ≤ (T j).toInt) ∧ (∀ j, 1 ≤ j → j < D → lvM it m (T j).toInt.toNat ∧ 1 ≤ (T j).toInt) ∧ ∀ j k, j < D → k < D → T j = T k → j = k
def tbC (di pa : Nat → Int32) (nm : Nat → Int64) (T : Nat → Int32) (D i : Nat) (k : Int32) : Prop := ∀ j, 1 ≤ j → j < D → (∃ i', i' < i ∧ pa (T j).toInt.toNat = T i') ∨ (pa (T j).toInt.toNat = T i ∧ (0 ≤ k.toInt → gtK (kyF nm di k.toInt.toNat) (kyF nm di (T j).toInt.toNat)))
/-- one more -/
theorem tb_lt {it di pa : Nat → Int32} {nm : Nat → Int64} {m : Nat} {T : Nat → Int32} {D i : Nat} {k ma : Int32} (hT : treeM it pa m) (hm : m = ma.toInt.toNat) (hA : tbA it m T D) (hC : tbC di pa nm T D i k) (hi : i < D) (hk : 1 ≤ k.toInt) (hk2 : k.toInt < ma.toInt) (hk3 : it k.toInt.toNat = 1) (hk4 : pa k.toInt.toNat = T i) : (∀ j, j < D → T j ≠ k) ∧ D < 30 := by
  obtain ⟨a0, a1, a2, a3⟩ := hA
  have ne : ∀ j, j < D → T j ≠ k := fun j hj z => by
    by_cases h0 : j = 0
    · rw [h0, a0] at z
      rw [← z] at hk
      exact absurd hk (by decide)
    · rcases hC j (by omega) hj with ⟨i', h1, h2⟩ | ⟨h1, h2⟩
      · rw [z, hk4] at h2
        have := a3 i i' hi (by omega) h2
        omega
      · rw [z] at h2
        exact gtK_ir (h2 (by omega))
  refine ⟨ne, ?_⟩
  have h0 : it 0 = 1 := hT.2.2.2 (by omega)
  have hc := cnt_inj (D + 1) (P := alB it) (m := m) (f := fun j => if j < D then (T j).toInt.toNat else k.toInt.toNat) (fun j hj => by
    by_cases h : j < D
    · simp only [h, if_true]
      by_cases hj0 : j = 0
      · rw [hj0, a0]
        exact ⟨by show 0 < m; omega, by unfold alB; rw [show (0 : Int32).toInt.toNat = 0 from rfl, h0]; decide⟩
      · obtain ⟨⟨g1, g2⟩, -⟩ := a2 j (by omega) h
        exact ⟨g1, by unfold alB; rw [g2]; decide⟩
    · simp only [h, if_false]
      exact ⟨by omega, by unfold alB; rw [hk3]; decide⟩) (fun j q hj hq e => by
    by_cases h : j < D <;> by_cases h' : q < D <;> simp only [h, h', if_true, if_false] at e
    · have e1 := a1 j h
      have e2 := a1 q h'
      exact a3 j q h h' (Int32.toInt_inj.mp (by omega))
    · exact absurd (Int32.toInt_inj.mp (by have := a1 j h; omega)) (ne j h)
    · exact absurd (Int32.toInt_inj.mp (by have := a1 q h'; omega)) (ne q h')
    · omega)
  have := hT.2.2.1
  omega
theorem tb_app {it di pa : Nat → Int32} {nm : Nat → Int64} {m : Nat} {T : Nat → Int32} {D : Nat} {k ma : Int32} (hm : m = ma.toInt.toNat) (hA : tbA it m T D) (hD : 1 ≤ D) (hne : ∀ j, j < D → T j ≠ k) (hk : 1 ≤ k.toInt) (hk2 : k.toInt < ma.toInt) (hk3 : it k.toInt.toNat = 1) : tbA it m (upd T D k) (D + 1) := by
  obtain ⟨a0, a1, a2, a3⟩ := hA
  refine ⟨by rw [upd_n _ (by omega)]; exact a0, fun j hj => ?_, fun j h1 hj => ?_, fun j q hj hq e => ?_⟩
  · by_cases h : j = D
    · rw [h, upd_s]; omega
    · rw [upd_n _ h]; exact a1 j (by omega)
  · by_cases h : j = D
    · rw [h, upd_s]; exact ⟨⟨by omega, hk3⟩, hk⟩
    · rw [upd_n _ h]; exact a2 j h1 (by omega)
  · by_cases h : j = D <;> by_cases h' : q = D
    · omega
    · rw [h, upd_s, upd_n _ h'] at e; exact absurd e.symm (hne q (by omega))
    · rw [h', upd_s, upd_n _ h] at e; exact absurd e (hne j (by omega))
    · rw [upd_n _ h, upd_n _ h'] at e; exact a3 j q (by omega) (by omega) e
/-- next goes on: without or with one more in the table -/
theorem tbC_next {it di pa : Nat → Int32} {nm : Nat → Int64} {T : Nat → Int32} {D i : Nat} {k r : Int32} {m : Int} (hC : tbC di pa nm T D i k) (hk : 0 ≤ k.toInt) (hn : nxP it di pa nm m (T i) k r) : tbC di pa nm T D i r := fun j h1 hj => by
  rcases hC j h1 hj with h | ⟨h, h2⟩
  · exact Or.inl h
  · refine Or.inr ⟨h, fun hr => ?_⟩
    rcases hn with rfl | ⟨-, -, -, -, g⟩
    · exact absurd hr (by decide)
    · exact gtK_tr (g hk) (h2 hk)
theorem tbC_app {it di pa : Nat → Int32} {nm : Nat → Int64} {T : Nat → Int32} {D i : Nat} {k r : Int32} {m : Int} (hC : tbC di pa nm T D i k) (hi : i < D) (hk : 0 ≤ k.toInt) (hk4 : pa k.toInt.toNat = T i) (hn : nxP it di pa nm m (T i) k r) : tbC di pa nm (upd T D k) (D + 1) i r := fun j h1 hj => by
  by_cases h : j = D
  · rw [h, upd_s]
    refine Or.inr ⟨by rw [upd_n _ (by omega)]; exact hk4, fun hr => ?_⟩
    rcases hn with rfl | ⟨-, -, -, -, g⟩
    · exact absurd hr (by decide)
    · exact g hk
  · rw [upd_n _ h]
    rcases tbC_next hC hk hn j h1 (by omega) with ⟨i', g1, g2⟩ | ⟨g1, g2⟩
    · exact Or.inl ⟨i', g1, by rw [upd_n _ (by omega)]; exact g2⟩
    · exact Or.inr ⟨by rw [upd_n _ (by omega)]; exact g1, g2⟩
theorem tbC_first {it di pa : Nat → Int32} {nm : Nat → Int64} {T : Nat → Int32} {D i : Nat} {r : Int32} (h : ∀ j, 1 ≤ j → j < D → ∃ i', i' < i ∧ pa (T j).toInt.toNat = T i') : tbC di pa nm T D i r := fun j h1 hj => Or.inl (h j h1 hj)
theorem tbC_up {di pa : Nat → Int32} {nm : Nat → Int64} {T : Nat → Int32} {D i : Nat} {r : Int32} (h : tbC di pa nm T D i r) : ∀ j, 1 ≤ j → j < D → ∃ i', i' < i + 1 ∧ pa (T j).toInt.toNat = T i' := fun j h1 hj => by
  rcases h j h1 hj with ⟨i', g1, g2⟩ | ⟨g1, -⟩
  · exact ⟨i', by omega, g2⟩
  · exact ⟨i, by omega, g1⟩
/-- the table when it is done -/
def tabQ (it pa T : Nat → Int32) (m D : Nat) : Prop := 1 ≤ D ∧ D ≤ 30 ∧ tbA it m T D ∧ ∀ j, 1 ≤ j → j < D → ∃ i', i' < D ∧ pa (T j).toInt.toNat = T i'

set_option maxHeartbeats 4000000 in
set_option maxRecDepth 100000 in
theorem m_letters (l : Launch) (D : va_G) (t : Nat → ClassId) (G : hG) (ak av : Nat → Nat) (h : hM) (τ : tM) (n : Nat) (w9 : Int64) (hn : n ≤ 200) (hT : TI τ t n h) : Met l y_Mo_lettersOf (.code y_Mo_lettersOf b_Mo_lettersOf 3 (some .int) :: lw_g) { frames := 0, cells := 0, slots := 0, locals := 0 } (hP (kE D t G ak av) D vwCl G h [.long w9]) (hQi D vwCl G (fun r h' => (0 ≤ r.toInt ∧ r.toInt ≤ 8 ∧ r = letF w9) ∧ h = h')) 0 0 nof := by
  refine Met.ofW (cc := b_Mo_lettersOf) (maxL := 3) (ret := (some .int)) (by decide) rfl ?_
  intro p e s m args below meth c s₁ Bd hml hv
  obtain ⟨ha, hE, hH⟩ := hv
  have hx := Bd.exec
  have hb := Bd.bytes
  have hr := Bd.returns
  have hts : ∀ w ∈ lw_g, w.before args s = true := fun w hw => atoms_spec (ws := (.code y_Mo_lettersOf b_Mo_lettersOf 3 (some .int) :: lw_g)) Bd.pre w (List.mem_cons_of_mem _ hw)
  have hown : s.vm.findClass R_Mo = some m.cls := findClass_of_methodNamed Bd.named
  have hlocks := Bd.notSynchronized
  have hK := hE.1
  have hH0 := hH
  have hLo : hLc nof [] := hLc_nil
  have hz : s.heap.size ≤ s.heap.size := Nat.le_refl _
  have hl := lv_entry [.long w9] (n := 3) (Nat.le_of_ble_eq_true rfl)
  rw [show entryFrame m args 3 = F0 m 0 ((lg_sl [.long w9] ++ List.replicate (3 - (lg_sl [.long w9]).length) Slot.unset).toArray) [] from (by rw [ha]; exact lg_entry_eq m [.long w9] 3)]
  generalize (lg_sl [.long w9] ++ List.replicate (3 - (lg_sl [.long w9]).length) Slot.unset).toArray = ls at hl ⊢
  have hl : lv_has ls 3 [(0, .long w9)] := hl
  refine lv_iconst (v := 0) hx hb d_Mo_lettersOf_0 (by decide) ?_
  refine lv_istore_n (lv' := [(2, .int 0), (0, .long w9)]) hx hb d_Mo_lettersOf_1 rfl hl (by decide) rfl (fun ls hl => ?_)
  refine hm_loop (fun k2 ls H locs hh2 => ∃ (i9 : Int32), k2 = mU i9 ∧ lv_has ls 3 [(0, .long w9), (2, .int i9)] ∧ hm D vwCl G hh2 H ∧ s.heap.size ≤ H.size ∧ hLc nof locs ∧ (h = hh2) ∧ (0 ≤ i9.toInt ∧ i9.toInt ≤ 8) ∧ (letL w9 (8 - i9.toInt).toNat i9 = letF w9)) ?_ (hh := h) ⟨0, rfl, (lv_sub hl [1, 0] rfl), hH, hz, hLo, rfl, (by decide), rfl⟩
  rintro k2 ls H locs hh2 ⟨i9, hk2, hl, hH, hz, hLo, rfl, I_i9, hL9⟩ ih2
  refine lv_iload_n hx hb d_Mo_lettersOf_2 rfl (lv_at hl 1 rfl) ?_
  refine lv_bipush (v := 8) hx hb d_Mo_lettersOf_3 (by decide) ?_
  refine lv_icmp_ge (tgt := 25) hx hb d_Mo_lettersOf_5 (by decide) (fun hc_1 => ?_) (fun hc_1 => ?_)
  · skip
    have ic_2 : 8 ≤ i9.toInt := iLe hc_1
    refine lv_iload_n hx hb d_Mo_lettersOf_25 rfl (lv_at hl 1 rfl) ?_
    exact W.iret (v := i9) hx hb hr (fun t9 ht hW => ⟨i9, h, rfl, ⟨⟨by omega, by omega, by rw [← hL9]; exact (letL_end rfl (by omega)).symm⟩, rfl⟩, by rw [ht]; exact hH, by rw [ht]; exact hz⟩) hLo d_Mo_lettersOf_26
  · skip
    have ic_3 : i9.toInt < 8 := iNe hc_1
    refine lv_lload_n hx hb d_Mo_lettersOf_8 rfl (lv_at hl 0 rfl) ?_
    refine lv_bipush (v := 8) hx hb d_Mo_lettersOf_9 (by decide) ?_
    refine lv_iload_n hx hb d_Mo_lettersOf_11 rfl (lv_at hl 1 rfl) ?_
    refine lv_imul hx hb d_Mo_lettersOf_12 ?_
    refine lv_topi (fun v_4 e_5 => ?_)
    refine lv_lushr (v := (w9.toUInt64 >>> (v_4.toInt64.toUInt64 &&& Int64.toUInt64 63)).toInt64) hx hb d_Mo_lettersOf_13 rfl ?_
    refine lv_topl (fun v_6 e_7 => ?_)
    refine lv_lconst (v := 0) hx hb d_Mo_lettersOf_14 (by decide) ?_
    refine W.lcmp hx hb d_Mo_lettersOf_15 ?_
    refine lv_if_eq (tgt := 25) hx hb d_Mo_lettersOf_16 (by decide) (fun hc_8 => ?_) (fun hc_8 => ?_)
    · skip
      refine lv_iload_n hx hb d_Mo_lettersOf_25 rfl (lv_at hl 1 rfl) ?_
      exact W.iret (v := i9) hx hb hr (fun t9 ht hW => ⟨i9, h, rfl, ⟨⟨by omega, by omega, by rw [← hL9]; exact (letL_z rfl (by omega) (by have hq := hc_8; rw [e_7, e_5] at hq; exact hq)).symm⟩, rfl⟩, by rw [ht]; exact hH, by rw [ht]; exact hz⟩) hLo d_Mo_lettersOf_26
    · skip
      have hz9 : ¬ lg_cmp (shU w9 (8 * i9)) 0 = 0 := by have hq := hc_8; rw [e_7, e_5] at hq; exact hq
      obtain ⟨j_9, e_10⟩ : ∃ z : Int32, z = i9 + 1 := ⟨_, rfl⟩
      refine lv_iinc (v := j_9) (lv' := [(2, .int j_9), (0, .long w9)]) hx hb d_Mo_lettersOf_19 hl (k := 1) rfl e_10.symm (by decide) rfl (fun ls hl => ?_)
      refine lv_goto (tgt := 2) hx hb d_Mo_lettersOf_22 (by decide) ?_
      have is_11 : j_9.toInt = i9.toInt + 1 := by rw [e_10]; exact iAddK 1 rfl (by omega) (by omega)
      exact ih2 (mU j_9) ls _ locs _ (by rw [hk2]; exact mU_lt (by omega)) ⟨j_9, rfl, (lv_sub hl [1, 0] rfl), hH, hz, hLo, rfl, ⟨by omega, by omega⟩, (by rw [letL_s rfl e_10 (by omega) rfl (by omega) hz9]; exact hL9)⟩

set_option maxHeartbeats 4000000 in
set_option maxRecDepth 100000 in
theorem m_letter2 (l : Launch) (D : va_G) (t : Nat → ClassId) (G : hG) (ak av : Nat → Nat) (h : hM) (τ : tM) (n : Nat) (w9 : Int64) (i8 : Int32) (hn : n ≤ 200) (hT : TI τ t n h) : Met l y_Mo_letter (.code y_Mo_letter b_Mo_letter 3 (some .int) :: lw_g) { frames := 1, cells := 0, slots := 0, locals := 22 } (hP (kE D t G ak av) D vwCl G h [.long w9, .int i8]) (hQi D vwCl G (fun r h' => ((0 ≤ r.toInt ∧ r.toInt ≤ 255) ∧ r = ltF w9 i8) ∧ h = h')) 0 0 nof := by
  refine Met.ofW (cc := b_Mo_letter) (maxL := 3) (ret := (some .int)) (by decide) rfl ?_
  intro p e s m args below meth c s₁ Bd hml hv
  obtain ⟨ha, hE, hH⟩ := hv
  have hx := Bd.exec
  have hb := Bd.bytes
  have hr := Bd.returns
  have hts : ∀ w ∈ lw_g, w.before args s = true := fun w hw => atoms_spec (ws := (.code y_Mo_letter b_Mo_letter 3 (some .int) :: lw_g)) Bd.pre w (List.mem_cons_of_mem _ hw)
  have hown : s.vm.findClass R_Mo = some m.cls := findClass_of_methodNamed Bd.named
  have hlocks := Bd.notSynchronized
  have hK := hE.1
  have hH0 := hH
  have hLo : hLc nof [] := hLc_nil
  have hz : s.heap.size ≤ s.heap.size := Nat.le_refl _
  have hl := lv_entry [.long w9, .int i8] (n := 3) (Nat.le_of_ble_eq_true rfl)
  rw [show entryFrame m args 3 = F0 m 0 ((lg_sl [.long w9, .int i8] ++ List.replicate (3 - (lg_sl [.long w9, .int i8]).length) Slot.unset).toArray) [] from (by rw [ha]; exact lg_entry_eq m [.long w9, .int i8] 3)]
  generalize (lg_sl [.long w9, .int i8] ++ List.replicate (3 - (lg_sl [.long w9, .int i8]).length) Slot.unset).toArray = ls at hl ⊢
  have hl : lv_has ls 3 [(0, .long w9), (2, .int i8)] := hl
  refine lv_lload_n hx hb d_Mo_letter_0 rfl (lv_at hl 0 rfl) ?_
  refine lv_bipush (v := 8) hx hb d_Mo_letter_1 (by decide) ?_
  refine lv_lload_n hx hb d_Mo_letter_3 rfl (lv_at hl 0 rfl) ?_
  refine hm_callPi (va_runS (As := [.long w9]) (rest := [.int 8, .long w9]) ⟨hx, hb, hml, hown, hts⟩ (m_letters l D t G ak av h τ n w9    hn hT    ) ⟨cw9B 1 hts mw_634 mw_635 mw_579 rfl rfl (by decide +kernel) ⟨Nat.le_of_ble_eq_true rfl, Nat.le_of_ble_eq_true rfl⟩, hts _ mw_636⟩ (hP_S kE_ok hE hH) rfl rfl hl.1 rfl (lv_room (Nat.le_of_ble_eq_true rfl)) d_Mo_letter_4 ⟨Nat.le_of_ble_eq_true rfl, Nat.le_of_ble_eq_true rfl⟩) (fun r_1 h_2 H_3 hp_5  hH z_4 => ?_)
  have hz : s.heap.size ≤ H_3.size := Nat.le_trans hz z_4
  obtain ⟨xp_6, rfl⟩ := hp_5
  obtain ⟨il1, il2, e_r_1⟩ := xp_6
  refine lv_iconst (v := 1) hx hb d_Mo_letter_7 (by decide) ?_
  refine lv_isub hx hb d_Mo_letter_8 ?_
  refine lv_topi (fun v_7 e_8 => ?_)
  refine lv_iload_n hx hb d_Mo_letter_9 rfl (lv_at hl 1 rfl) ?_
  refine lv_isub hx hb d_Mo_letter_10 ?_
  refine lv_topi (fun v_9 e_10 => ?_)
  refine lv_imul hx hb d_Mo_letter_11 ?_
  refine lv_topi (fun v_11 e_12 => ?_)
  refine lv_lushr (v := (w9.toUInt64 >>> (v_11.toInt64.toUInt64 &&& Int64.toUInt64 63)).toInt64) hx hb d_Mo_letter_12 rfl ?_
  refine lv_topl (fun v_13 e_14 => ?_)
  refine lv_ldc2 (v := 255) hx hb hown (hts _ mw_577) d_Mo_letter_13 ?_
  refine lv_land hx hb d_Mo_letter_16 ?_
  refine lv_topl (fun v_15 e_16 => ?_)
  refine lv_l2i (v := v_15.toInt32) hx hb d_Mo_letter_17 rfl ?_
  exact W.iret (v := v_15.toInt32) hx hb hr (fun t9 ht hW => ⟨v_15.toInt32, h, rfl, ⟨(by unfold ltF shU; rw [e_16, e_14, e_12, e_10, e_8, e_r_1]; exact ⟨l_and8 _, rfl⟩), rfl⟩, by rw [ht]; exact hH, by rw [ht]; exact hz⟩) hLo d_Mo_letter_18

set_option maxHeartbeats 4000000 in
set_option maxRecDepth 100000 in
theorem m_idSize (l : Launch) (D : va_G) (t : Nat → ClassId) (G : hG) (ak av : Nat → Nat) (h : hM) (τ : tM) (n : Nat) (w9 : Int64) (z9 : Int32) (hn : n ≤ 200) (hT : TI τ t n h) (Z_z9 : zb z9) : Met l y_Mo_idSize (.code y_Mo_idSize b_Mo_idSize 3 (some .int) :: lw_g) { frames := 1, cells := 0, slots := 0, locals := 22 } (hP (kE D t G ak av) D vwCl G h [.long w9, .int z9]) (hQi D vwCl G (fun r h' => (0 ≤ r.toInt ∧ r.toInt ≤ 11) ∧ h = h')) 0 0 nof := by
  refine Met.ofW (cc := b_Mo_idSize) (maxL := 3) (ret := (some .int)) (by decide) rfl ?_
  intro p e s m args below meth c s₁ Bd hml hv
  obtain ⟨ha, hE, hH⟩ := hv
  have hx := Bd.exec
  have hb := Bd.bytes
  have hr := Bd.returns
  have hts : ∀ w ∈ lw_g, w.before args s = true := fun w hw => atoms_spec (ws := (.code y_Mo_idSize b_Mo_idSize 3 (some .int) :: lw_g)) Bd.pre w (List.mem_cons_of_mem _ hw)
  have hown : s.vm.findClass R_Mo = some m.cls := findClass_of_methodNamed Bd.named
  have hlocks := Bd.notSynchronized
  have hK := hE.1
  have hH0 := hH
  have hLo : hLc nof [] := hLc_nil
  have hz : s.heap.size ≤ s.heap.size := Nat.le_refl _
  have hl := lv_entry [.long w9, .int z9] (n := 3) (Nat.le_of_ble_eq_true rfl)
  rw [show entryFrame m args 3 = F0 m 0 ((lg_sl [.long w9, .int z9] ++ List.replicate (3 - (lg_sl [.long w9, .int z9]).length) Slot.unset).toArray) [] from (by rw [ha]; exact lg_entry_eq m [.long w9, .int z9] 3)]
  generalize (lg_sl [.long w9, .int z9] ++ List.replicate (3 - (lg_sl [.long w9, .int z9]).length) Slot.unset).toArray = ls at hl ⊢
  have hl : lv_has ls 3 [(0, .long w9), (2, .int z9)] := hl
  refine lv_iload_n hx hb d_Mo_idSize_0 rfl (lv_at hl 1 rfl) ?_
  refine lv_if_eq (tgt := 11) hx hb d_Mo_idSize_1 (by decide) (fun hc_1 => ?_) (fun hc_1 => ?_)
  · skip
    have ic_2 : z9.toInt = 0 := congrArg Int32.toInt hc_1
    refine lv_lload_n hx hb d_Mo_idSize_11 rfl (lv_at hl 0 rfl) ?_
    refine hm_callPi (va_runS (As := [.long w9]) (rest := []) ⟨hx, hb, hml, hown, hts⟩ (m_letters l D t G ak av h τ n w9    hn hT    ) ⟨cw9B 1 hts mw_634 mw_635 mw_579 rfl rfl (by decide +kernel) ⟨Nat.le_of_ble_eq_true rfl, Nat.le_of_ble_eq_true rfl⟩, hts _ mw_636⟩ (hP_S kE_ok hE hH) rfl rfl hl.1 rfl (lv_room (Nat.le_of_ble_eq_true rfl)) d_Mo_idSize_12 ⟨Nat.le_of_ble_eq_true rfl, Nat.le_of_ble_eq_true rfl⟩) (fun r_3 h_4 H_5 hp_7  hH z_6 => ?_)
    have hz : s.heap.size ≤ H_5.size := Nat.le_trans hz z_6
    obtain ⟨xp_8, rfl⟩ := hp_7
    obtain ⟨il1, il2, e_r_3⟩ := xp_8
    refine lv_iconst (v := 3) hx hb d_Mo_idSize_15 (by decide) ?_
    refine lv_iadd hx hb d_Mo_idSize_16 ?_
    refine lv_topi (fun v_9 e_10 => ?_)
    have is_11 : v_9.toInt = r_3.toInt + 3 := by rw [e_10]; exact iAddK 3 rfl (by omega) (by omega)
    exact W.iret (v := v_9) hx hb hr (fun t9 ht hW => ⟨v_9, h, rfl, ⟨⟨by omega, by omega⟩, rfl⟩, by rw [ht]; exact hH, by rw [ht]; exact hz⟩) hLo d_Mo_idSize_17
  · skip
    refine lv_lload_n hx hb d_Mo_idSize_4 rfl (lv_at hl 0 rfl) ?_
    refine hm_callPi (va_runS (As := [.long w9]) (rest := []) ⟨hx, hb, hml, hown, hts⟩ (m_letters l D t G ak av h τ n w9    hn hT    ) ⟨cw9B 1 hts mw_634 mw_635 mw_579 rfl rfl (by decide +kernel) ⟨Nat.le_of_ble_eq_true rfl, Nat.le_of_ble_eq_true rfl⟩, hts _ mw_636⟩ (hP_S kE_ok hE hH) rfl rfl hl.1 rfl (lv_room (Nat.le_of_ble_eq_true rfl)) d_Mo_idSize_5 ⟨Nat.le_of_ble_eq_true rfl, Nat.le_of_ble_eq_true rfl⟩) (fun r_12 h_13 H_14 hp_16  hH z_15 => ?_)
    have hz : s.heap.size ≤ H_14.size := Nat.le_trans hz z_15
    obtain ⟨xp_17, rfl⟩ := hp_16
    obtain ⟨il1, il2, e_r_12⟩ := xp_17
    refine lv_goto (tgt := 17) hx hb d_Mo_idSize_8 (by decide) ?_
    exact W.iret (v := r_12) hx hb hr (fun t9 ht hW => ⟨r_12, h, rfl, ⟨⟨by omega, by omega⟩, rfl⟩, by rw [ht]; exact hH, by rw [ht]; exact hz⟩) hLo d_Mo_idSize_17

set_option maxHeartbeats 4000000 in
set_option maxRecDepth 100000 in
theorem m_idByte (l : Launch) (D : va_G) (t : Nat → ClassId) (G : hG) (ak av : Nat → Nat) (h : hM) (τ : tM) (n : Nat) (w9 : Int64) (z9 : Int32) (i8 : Int32) (hn : n ≤ 200) (hT : TI τ t n h) (Z_z9 : zb z9) : Met l y_Mo_idByte (.code y_Mo_idByte b_Mo_idByte 5 (some .int) :: lw_g) { frames := 2, cells := 0, slots := 0, locals := 44 } (hP (kE D t G ak av) D vwCl G h [.long w9, .int z9, .int i8]) (hQi D vwCl G (fun r h' => r = idF w9 z9 i8 ∧ h = h')) 0 0 nof := by
  refine Met.ofW (cc := b_Mo_idByte) (maxL := 5) (ret := (some .int)) (by decide) rfl ?_
  intro p e s m args below meth c s₁ Bd hml hv
  obtain ⟨ha, hE, hH⟩ := hv
  have hx := Bd.exec
  have hb := Bd.bytes
  have hr := Bd.returns
  have hts : ∀ w ∈ lw_g, w.before args s = true := fun w hw => atoms_spec (ws := (.code y_Mo_idByte b_Mo_idByte 5 (some .int) :: lw_g)) Bd.pre w (List.mem_cons_of_mem _ hw)
  have hown : s.vm.findClass R_Mo = some m.cls := findClass_of_methodNamed Bd.named
  have hlocks := Bd.notSynchronized
  have hK := hE.1
  have hH0 := hH
  have hLo : hLc nof [] := hLc_nil
  have hz : s.heap.size ≤ s.heap.size := Nat.le_refl _
  have hl := lv_entry [.long w9, .int z9, .int i8] (n := 5) (Nat.le_of_ble_eq_true rfl)
  rw [show entryFrame m args 5 = F0 m 0 ((lg_sl [.long w9, .int z9, .int i8] ++ List.replicate (5 - (lg_sl [.long w9, .int z9, .int i8]).length) Slot.unset).toArray) [] from (by rw [ha]; exact lg_entry_eq m [.long w9, .int z9, .int i8] 5)]
  generalize (lg_sl [.long w9, .int z9, .int i8] ++ List.replicate (5 - (lg_sl [.long w9, .int z9, .int i8]).length) Slot.unset).toArray = ls at hl ⊢
  have hl : lv_has ls 5 [(0, .long w9), (2, .int z9), (3, .int i8)] := hl
  refine lv_lload_n hx hb d_Mo_idByte_0 rfl (lv_at hl 0 rfl) ?_
  refine hm_callPi (va_runS (As := [.long w9]) (rest := []) ⟨hx, hb, hml, hown, hts⟩ (m_letters l D t G ak av h τ n w9    hn hT    ) ⟨cw9B 1 hts mw_634 mw_635 mw_579 rfl rfl (by decide +kernel) ⟨Nat.le_of_ble_eq_true rfl, Nat.le_of_ble_eq_true rfl⟩, hts _ mw_636⟩ (hP_S kE_ok hE hH) rfl rfl hl.1 rfl (lv_room (Nat.le_of_ble_eq_true rfl)) d_Mo_idByte_1 ⟨Nat.le_of_ble_eq_true rfl, Nat.le_of_ble_eq_true rfl⟩) (fun r_1 h_2 H_3 hp_5  hH z_4 => ?_)
  have hz : s.heap.size ≤ H_3.size := Nat.le_trans hz z_4
  obtain ⟨xp_6, rfl⟩ := hp_5
  obtain ⟨il1, il2, e_r_1⟩ := xp_6
  refine lv_istore (lv' := [(4, .int r_1), (0, .long w9), (2, .int z9), (3, .int i8)]) hx hb d_Mo_idByte_4 hl (by decide) rfl (fun ls hl => ?_)
  refine lv_iload_n hx hb d_Mo_idByte_6 rfl (lv_at hl 3 rfl) ?_
  refine lv_iload hx hb d_Mo_idByte_7 (lv_at hl 0 rfl) ?_
  refine lv_icmp_ge (tgt := 18) hx hb d_Mo_idByte_9 (by decide) (fun hc_7 => ?_) (fun hc_7 => ?_)
  · skip
    have ic_8 : r_1.toInt ≤ i8.toInt := iLe hc_7
    refine lv_iload_n hx hb d_Mo_idByte_18 rfl (lv_at hl 2 rfl) ?_
    refine lv_if_ne (tgt := 30) hx hb d_Mo_idByte_19 (by decide) (fun hc_9 => ?_) (fun hc_9 => ?_)
    · skip
      refine lv_iconst (v := 0) hx hb d_Mo_idByte_30 (by decide) ?_
      refine lv_goto (tgt := 60) hx hb d_Mo_idByte_31 (by decide) ?_
      exact W.iret (v := 0) hx hb hr (fun t9 ht hW => ⟨0, h, rfl, ⟨(by unfold idF; rw [if_neg (by rw [← e_r_1]; exact Int32.not_lt.mpr hc_7), if_pos hc_9]), rfl⟩, by rw [ht]; exact hH, by rw [ht]; exact hz⟩) hLo d_Mo_idByte_60
    · skip
      have ic_10 : z9.toInt = 0 := congrArg Int32.toInt hc_9
      refine lv_iload_n hx hb d_Mo_idByte_22 rfl (lv_at hl 3 rfl) ?_
      refine lv_iload hx hb d_Mo_idByte_23 (lv_at hl 0 rfl) ?_
      refine lv_iconst (v := 2) hx hb d_Mo_idByte_25 (by decide) ?_
      refine lv_iadd hx hb d_Mo_idByte_26 ?_
      refine lv_topi (fun v_11 e_12 => ?_)
      refine lv_icmp_le (tgt := 34) hx hb d_Mo_idByte_27 (by decide) (fun hc_13 => ?_) (fun hc_13 => ?_)
      · skip
        have ic_14 : i8.toInt ≤ v_11.toInt := iLe hc_13
        refine lv_iload_n hx hb d_Mo_idByte_34 rfl (lv_at hl 3 rfl) ?_
        refine lv_iload hx hb d_Mo_idByte_35 (lv_at hl 0 rfl) ?_
        refine lv_icmp_ne (tgt := 45) hx hb d_Mo_idByte_37 (by decide) (fun hc_15 => ?_) (fun hc_15 => ?_)
        · skip
          refine lv_iload_n hx hb d_Mo_idByte_45 rfl (lv_at hl 3 rfl) ?_
          refine lv_iload hx hb d_Mo_idByte_46 (lv_at hl 0 rfl) ?_
          refine lv_iconst (v := 1) hx hb d_Mo_idByte_48 (by decide) ?_
          refine lv_iadd hx hb d_Mo_idByte_49 ?_
          refine lv_topi (fun v_16 e_17 => ?_)
          refine lv_icmp_ne (tgt := 58) hx hb d_Mo_idByte_50 (by decide) (fun hc_18 => ?_) (fun hc_18 => ?_)
          · skip
            refine lv_bipush (v := 49) hx hb d_Mo_idByte_58 (by decide) ?_
            exact W.iret (v := 49) hx hb hr (fun t9 ht hW => ⟨49, h, rfl, ⟨(by unfold idF; rw [if_neg (by rw [← e_r_1]; exact Int32.not_lt.mpr hc_7), if_neg (fun q => q hc_9), if_neg (fun q => q (by rw [← e_r_1, ← e_12]; exact hc_13)), if_pos (by rw [← e_r_1]; exact hc_15), if_pos (by rw [← e_r_1, ← e_17]; exact hc_18)]), rfl⟩, by rw [ht]; exact hH, by rw [ht]; exact hz⟩) hLo d_Mo_idByte_60
          · skip
            have ic_19 : i8.toInt = v_16.toInt := congrArg Int32.toInt hc_18
            refine lv_bipush (v := 59) hx hb d_Mo_idByte_53 (by decide) ?_
            refine lv_goto (tgt := 60) hx hb d_Mo_idByte_55 (by decide) ?_
            exact W.iret (v := 59) hx hb hr (fun t9 ht hW => ⟨59, h, rfl, ⟨(by unfold idF; rw [if_neg (by rw [← e_r_1]; exact Int32.not_lt.mpr hc_7), if_neg (fun q => q hc_9), if_neg (fun q => q (by rw [← e_r_1, ← e_12]; exact hc_13)), if_pos (by rw [← e_r_1]; exact hc_15), if_neg (fun q => q (by rw [← e_r_1, ← e_17]; exact hc_18))]), rfl⟩, by rw [ht]; exact hH, by rw [ht]; exact hz⟩) hLo d_Mo_idByte_60
        · skip
          have ic_20 : i8.toInt = r_1.toInt := congrArg Int32.toInt hc_15
          refine lv_bipush (v := 46) hx hb d_Mo_idByte_40 (by decide) ?_
          refine lv_goto (tgt := 60) hx hb d_Mo_idByte_42 (by decide) ?_
          exact W.iret (v := 46) hx hb hr (fun t9 ht hW => ⟨46, h, rfl, ⟨(by unfold idF; rw [if_neg (by rw [← e_r_1]; exact Int32.not_lt.mpr hc_7), if_neg (fun q => q hc_9), if_neg (fun q => q (by rw [← e_r_1, ← e_12]; exact hc_13)), if_neg (fun q => q (by rw [← e_r_1]; exact hc_15))]), rfl⟩, by rw [ht]; exact hH, by rw [ht]; exact hz⟩) hLo d_Mo_idByte_60
      · skip
        have ic_21 : v_11.toInt < i8.toInt := iNe hc_13
        have iu_22 : i8.toInt < 2147483648 := iUp _
        refine lv_iconst (v := 0) hx hb d_Mo_idByte_30 (by decide) ?_
        refine lv_goto (tgt := 60) hx hb d_Mo_idByte_31 (by decide) ?_
        exact W.iret (v := 0) hx hb hr (fun t9 ht hW => ⟨0, h, rfl, ⟨(by unfold idF; rw [if_neg (by rw [← e_r_1]; exact Int32.not_lt.mpr hc_7), if_neg (fun q => q hc_9), if_pos (by rw [← e_r_1, ← e_12]; exact hc_13)]), rfl⟩, by rw [ht]; exact hH, by rw [ht]; exact hz⟩) hLo d_Mo_idByte_60
  · skip
    have ic_23 : i8.toInt < r_1.toInt := iNe hc_7
    have iu_24 : r_1.toInt < 2147483648 := iUp _
    refine lv_lload_n hx hb d_Mo_idByte_12 rfl (lv_at hl 1 rfl) ?_
    refine lv_iload_n hx hb d_Mo_idByte_13 rfl (lv_at hl 3 rfl) ?_
    refine hm_callPi (va_runS (As := [.long w9, .int i8]) (rest := []) ⟨hx, hb, hml, hown, hts⟩ (m_letter2 l D t G ak av h τ n w9 i8    hn hT    ) ⟨cw9B 2 hts mw_637 mw_638 mw_579 rfl rfl (by decide +kernel) ⟨Nat.le_of_ble_eq_true rfl, Nat.le_of_ble_eq_true rfl⟩, hts _ mw_639⟩ (hP_S kE_ok hE hH) rfl rfl hl.1 rfl (lv_room (Nat.le_of_ble_eq_true rfl)) d_Mo_idByte_14 ⟨Nat.le_of_ble_eq_true rfl, Nat.le_of_ble_eq_true rfl⟩) (fun r_25 h_26 H_27 hp_29  hH z_28 => ?_)
    have hz : s.heap.size ≤ H_27.size := Nat.le_trans hz z_28
    obtain ⟨xp_30, rfl⟩ := hp_29
    exact W.iret (v := r_25) hx hb hr (fun t9 ht hW => ⟨r_25, h, rfl, ⟨(by unfold idF; rw [if_pos (by rw [← e_r_1]; exact Int32.not_le.mp hc_7)]; exact xp_30.2), rfl⟩, by rw [ht]; exact hH, by rw [ht]; exact hz⟩) hLo d_Mo_idByte_17

set_option maxHeartbeats 4000000 in
set_option maxRecDepth 100000 in
theorem m_compare (l : Launch) (D : va_G) (t : Nat → ClassId) (G : hG) (ak av : Nat → Nat) (h : hM) (τ : tM) (n : Nat) (v9 : Int64) (y9 : Int32) (w9 : Int64) (z9 : Int32) (hn : n ≤ 200) (hT : TI τ t n h) (Z_y9 : zb y9) (Z_z9 : zb z9) : Met l y_Mo_compare (.code y_Mo_compare b_Mo_compare 8 (some .int) :: lw_g) { frames := 3, cells := 0, slots := 0, locals := 68 } (hP (kE D t G ak av) D vwCl G h [.long v9, .int y9, .long w9, .int z9]) (hQi D vwCl G (fun r h' => (0 < r.toInt → gtK (fun i => idF v9 y9 (nI i)) (fun i => idF w9 z9 (nI i))) ∧ h = h')) 0 0 nof := by
  refine Met.ofW (cc := b_Mo_compare) (maxL := 8) (ret := (some .int)) (by decide) rfl ?_
  intro p e s m args below meth c s₁ Bd hml hv
  obtain ⟨ha, hE, hH⟩ := hv
  have hx := Bd.exec
  have hb := Bd.bytes
  have hr := Bd.returns
  have hts : ∀ w ∈ lw_g, w.before args s = true := fun w hw => atoms_spec (ws := (.code y_Mo_compare b_Mo_compare 8 (some .int) :: lw_g)) Bd.pre w (List.mem_cons_of_mem _ hw)
  have hown : s.vm.findClass R_Mo = some m.cls := findClass_of_methodNamed Bd.named
  have hlocks := Bd.notSynchronized
  have hK := hE.1
  have hH0 := hH
  have hLo : hLc nof [] := hLc_nil
  have hz : s.heap.size ≤ s.heap.size := Nat.le_refl _
  have hl := lv_entry [.long v9, .int y9, .long w9, .int z9] (n := 8) (Nat.le_of_ble_eq_true rfl)
  rw [show entryFrame m args 8 = F0 m 0 ((lg_sl [.long v9, .int y9, .long w9, .int z9] ++ List.replicate (8 - (lg_sl [.long v9, .int y9, .long w9, .int z9]).length) Slot.unset).toArray) [] from (by rw [ha]; exact lg_entry_eq m [.long v9, .int y9, .long w9, .int z9] 8)]
  generalize (lg_sl [.long v9, .int y9, .long w9, .int z9] ++ List.replicate (8 - (lg_sl [.long v9, .int y9, .long w9, .int z9]).length) Slot.unset).toArray = ls at hl ⊢
  have hl : lv_has ls 8 [(0, .long v9), (2, .int y9), (3, .long w9), (5, .int z9)] := hl
  refine lv_iconst (v := 0) hx hb d_Mo_compare_0 (by decide) ?_
  refine lv_istore (lv' := [(6, .int 0), (0, .long v9), (2, .int y9), (3, .long w9), (5, .int z9)]) hx hb d_Mo_compare_1 hl (by decide) rfl (fun ls hl => ?_)
  refine hm_loop (fun k3 ls H locs hh3 => ∃ (i9 : Int32), k3 = mU i9 ∧ lv_has ls 8 [(0, .long v9), (2, .int y9), (3, .long w9), (5, .int z9), (6, .int i9)] ∧ hm D vwCl G hh3 H ∧ s.heap.size ≤ H.size ∧ hLc nof locs ∧ (h = hh3) ∧ (0 ≤ i9.toInt ∧ i9.toInt ≤ 12) ∧ (∀ q : Nat, q < i9.toInt.toNat → idF v9 y9 (nI q) = idF w9 z9 (nI q))) ?_ (hh := h) ⟨0, rfl, (lv_sub hl [1, 2, 3, 4, 0] rfl), hH, hz, hLo, rfl, (by decide), (fun q hq => absurd (show q < 0 from hq) (Nat.not_lt_zero q))⟩
  rintro k3 ls H locs hh3 ⟨i9, hk3, hl, hH, hz, hLo, rfl, I_i9, hE9⟩ ih3
  refine lv_iload hx hb d_Mo_compare_3 (lv_at hl 4 rfl) ?_
  refine lv_bipush (v := 12) hx hb d_Mo_compare_5 (by decide) ?_
  refine lv_icmp_ge (tgt := 42) hx hb d_Mo_compare_7 (by decide) (fun hc_1 => ?_) (fun hc_1 => ?_)
  · skip
    have ic_2 : 12 ≤ i9.toInt := iLe hc_1
    refine lv_iconst (v := 0) hx hb d_Mo_compare_42 (by decide) ?_
    exact W.iret (v := 0) hx hb hr (fun t9 ht hW => ⟨0, h, rfl, ⟨(fun z => absurd z (by decide)), rfl⟩, by rw [ht]; exact hH, by rw [ht]; exact hz⟩) hLo d_Mo_compare_43
  · skip
    have ic_3 : i9.toInt < 12 := iNe hc_1
    refine lv_lload_n hx hb d_Mo_compare_10 rfl (lv_at hl 0 rfl) ?_
    refine lv_iload_n hx hb d_Mo_compare_11 rfl (lv_at hl 1 rfl) ?_
    refine lv_iload hx hb d_Mo_compare_12 (lv_at hl 4 rfl) ?_
    refine hm_callPi (va_runS (As := [.long v9, .int y9, .int i9]) (rest := []) ⟨hx, hb, hml, hown, hts⟩ (m_idByte l D t G ak av h τ n v9 y9 i9    hn hT Z_y9   ) ⟨cw9B 3 hts mw_640 mw_641 mw_579 rfl rfl (by decide +kernel) ⟨Nat.le_of_ble_eq_true rfl, Nat.le_of_ble_eq_true rfl⟩, hts _ mw_642⟩ (hP_S kE_ok hE hH) rfl rfl hl.1 rfl (lv_room (Nat.le_of_ble_eq_true rfl)) d_Mo_compare_14 ⟨Nat.le_of_ble_eq_true rfl, Nat.le_of_ble_eq_true rfl⟩) (fun r_4 h_5 H_6 hp_8  hH z_7 => ?_)
    have hz : s.heap.size ≤ H_6.size := Nat.le_trans hz z_7
    obtain ⟨xp_9, rfl⟩ := hp_8
    have ib_10 : 0 ≤ r_4.toInt ∧ r_4.toInt ≤ 255 := by rw [xp_9]; exact idF_b _ _ _
    refine lv_lload_n hx hb d_Mo_compare_17 rfl (lv_at hl 2 rfl) ?_
    refine lv_iload hx hb d_Mo_compare_18 (lv_at hl 3 rfl) ?_
    refine lv_iload hx hb d_Mo_compare_20 (lv_at hl 4 rfl) ?_
    refine hm_callPi (va_runS (As := [.long w9, .int z9, .int i9]) (rest := [.int r_4]) ⟨hx, hb, hml, hown, hts⟩ (m_idByte l D t G ak av h τ n w9 z9 i9    hn hT Z_z9   ) ⟨cw9B 3 hts mw_640 mw_641 mw_579 rfl rfl (by decide +kernel) ⟨Nat.le_of_ble_eq_true rfl, Nat.le_of_ble_eq_true rfl⟩, hts _ mw_642⟩ (hP_S kE_ok hE hH) rfl rfl hl.1 rfl (lv_room (Nat.le_of_ble_eq_true rfl)) d_Mo_compare_22 ⟨Nat.le_of_ble_eq_true rfl, Nat.le_of_ble_eq_true rfl⟩) (fun r_11 h_12 H_13 hp_15  hH z_14 => ?_)
    have hz : s.heap.size ≤ H_13.size := Nat.le_trans hz z_14
    obtain ⟨xp_16, rfl⟩ := hp_15
    have ib_17 : 0 ≤ r_11.toInt ∧ r_11.toInt ≤ 255 := by rw [xp_16]; exact idF_b _ _ _
    refine lv_isub hx hb d_Mo_compare_25 ?_
    refine lv_topi (fun v_18 e_19 => ?_)
    refine lv_istore (lv' := [(7, .int v_18), (0, .long v9), (2, .int y9), (3, .long w9), (5, .int z9), (6, .int i9)]) hx hb d_Mo_compare_26 hl (by decide) rfl (fun ls hl => ?_)
    have is_20 : v_18.toInt = r_4.toInt - r_11.toInt := by rw [e_19]; exact iSub (by omega) (by omega)
    refine lv_iload hx hb d_Mo_compare_28 (lv_at hl 0 rfl) ?_
    refine lv_if_eq (tgt := 36) hx hb d_Mo_compare_30 (by decide) (fun hc_21 => ?_) (fun hc_21 => ?_)
    · skip
      have ic_22 : v_18.toInt = 0 := congrArg Int32.toInt hc_21
      obtain ⟨j_23, e_24⟩ : ∃ z : Int32, z = i9 + 1 := ⟨_, rfl⟩
      refine lv_iinc (v := j_23) (lv' := [(6, .int j_23), (7, .int v_18), (0, .long v9), (2, .int y9), (3, .long w9), (5, .int z9)]) hx hb d_Mo_compare_36 hl (k := 5) rfl e_24.symm (by decide) rfl (fun ls hl => ?_)
      refine lv_goto (tgt := 3) hx hb d_Mo_compare_39 (by decide) ?_
      have is_25 : j_23.toInt = i9.toInt + 1 := by rw [e_24]; exact iAddK 1 rfl (by omega) (by omega)
      exact ih3 (mU j_23) ls _ locs _ (by rw [hk3]; exact mU_lt (by omega)) ⟨j_23, rfl, (lv_sub hl [2, 3, 4, 5, 0] rfl), hH, hz, hLo, rfl, ⟨by omega, by omega⟩, (cmp_s (x := r_4) (y := r_11) (a := fun i => idF v9 y9 (nI i)) (b := fun i => idF w9 z9 (nI i)) I_i9.1 (by omega) hE9 (by show _ = idF v9 y9 _; rw [nI_to (by omega)]; exact xp_9) (by show _ = idF w9 z9 _; rw [nI_to (by omega)]; exact xp_16) (by omega))⟩
    · skip
      refine lv_iload hx hb d_Mo_compare_33 (lv_at hl 0 rfl) ?_
      exact W.iret (v := v_18) hx hb hr (fun t9 ht hW => ⟨v_18, h, rfl, ⟨(fun hp => ⟨i9.toInt.toNat, by omega, hE9, by show (idF w9 z9 _).toInt < (idF v9 y9 _).toInt; rw [nI_to (by omega), ← xp_9, ← xp_16]; omega⟩), rfl⟩, by rw [ht]; exact hH, by rw [ht]; exact hz⟩) hLo d_Mo_compare_35

set_option maxHeartbeats 4000000 in
set_option maxRecDepth 100000 in
theorem m_next (l : Launch) (D : va_G) (t : Nat → ClassId) (G : hG) (ak av : Nat → Nat) (h : hM) (τ : tM) (n : Nat) (m9 : Nat) (d9 : Int32) (b9 : Int32) (A : Nat → Nat) (th sd lo le wr ma nu di pl se wg op : Int32) (hn : n ≤ 200) (hT : TI τ t n h) (T_m9 : τ m9 = (20, 0)) (F_m9 : h m9 = some (.inr (9, mf A n th sd lo le wr ma nu di pl se wg op))) (hA : ∀ i, i < 28 → τ (A i) = (30, i)) (hmk : mOk sd lo ma se op) (hb7 : b9.toInt < 700) : Met l y_Mo_next (.code y_Mo_next b_Mo_next 5 (some .int) :: lw_g) { frames := 4, cells := 0, slots := 0, locals := 95 } (hP (kE D t G ak av) D vwCl G h [.ref m9, .int d9, .int b9]) (hQi D vwCl G (fun r h' => nxP (aI h (A 4)) (aI h (A 5)) (aI h (A 6)) (aJ h (A 7)) ma.toInt d9 b9 r ∧ h = h')) 0 0 nof := by
  refine Met.ofW (cc := b_Mo_next) (maxL := 5) (ret := (some .int)) (by decide) rfl ?_
  intro p e s m args below meth c s₁ Bd hml hv
  obtain ⟨ha, hE, hH⟩ := hv
  have hx := Bd.exec
  have hb := Bd.bytes
  have hr := Bd.returns
  have hts : ∀ w ∈ lw_g, w.before args s = true := fun w hw => atoms_spec (ws := (.code y_Mo_next b_Mo_next 5 (some .int) :: lw_g)) Bd.pre w (List.mem_cons_of_mem _ hw)
  have hown : s.vm.findClass R_Mo = some m.cls := findClass_of_methodNamed Bd.named
  have hlocks := Bd.notSynchronized
  have hK := hE.1
  have hH0 := hH
  have hLo : hLc nof [] := hLc_nil
  have hz : s.heap.size ≤ s.heap.size := Nat.le_refl _
  have hl := lv_entry [.ref m9, .int d9, .int b9] (n := 5) (Nat.le_of_ble_eq_true rfl)
  rw [show entryFrame m args 5 = F0 m 0 ((lg_sl [.ref m9, .int d9, .int b9] ++ List.replicate (5 - (lg_sl [.ref m9, .int d9, .int b9]).length) Slot.unset).toArray) [] from (by rw [ha]; exact lg_entry_eq m [.ref m9, .int d9, .int b9] 5)]
  generalize (lg_sl [.ref m9, .int d9, .int b9] ++ List.replicate (5 - (lg_sl [.ref m9, .int d9, .int b9]).length) Slot.unset).toArray = ls at hl ⊢
  have hl : lv_has ls 5 [(0, .ref m9), (1, .int d9), (2, .int b9)] := hl
  obtain ⟨hsd, hlo, hma, hse, hop⟩ := id hmk
  have inI : (nI n).toInt = n := nI_toInt (by omega)
  obtain ⟨g_1, F_A4, c_2⟩ := TI_arZ (L := 700) hT (hA 4 (by decide)) rfl rfl
  obtain ⟨g_3, F_A5, c_4⟩ := TI_arZ (L := 700) hT (hA 5 (by decide)) rfl rfl
  obtain ⟨g_5, F_A6⟩ := TI_arI (L := 700) hT (hA 6 (by decide)) rfl rfl
  obtain ⟨g_6, F_A7⟩ := TI_arJ (L := 700) hT (hA 7 (by decide)) rfl rfl
  refine lv_iconst (v := -1) hx hb d_Mo_next_0 (by decide) ?_
  refine lv_istore_n (lv' := [(3, .int (-1)), (0, .ref m9), (1, .int d9), (2, .int b9)]) hx hb d_Mo_next_1 rfl hl (by decide) rfl (fun ls hl => ?_)
  refine lv_iconst (v := 1) hx hb d_Mo_next_2 (by decide) ?_
  refine lv_istore (lv' := [(4, .int 1), (3, .int (-1)), (0, .ref m9), (1, .int d9), (2, .int b9)]) hx hb d_Mo_next_3 hl (by decide) rfl (fun ls hl => ?_)
  refine hm_loop (fun k5 ls H locs hh5 => ∃ (be9 : Int32) (i9 : Int32), k5 = mU i9 ∧ lv_has ls 5 [(0, .ref m9), (1, .int d9), (2, .int b9), (3, .int be9), (4, .int i9)] ∧ hm D vwCl G hh5 H ∧ s.heap.size ≤ H.size ∧ hLc nof locs ∧ (h = hh5) ∧ (1 ≤ i9.toInt) ∧ (nxP g_1 g_3 g_5 g_6 ma.toInt d9 b9 be9) ∧ (be9.toInt < 700)) ?_ (hh := h) ⟨(-1), 1, rfl, (lv_sub hl [2, 3, 4, 1, 0] rfl), hH, hz, hLo, rfl, (by decide), (Or.inl rfl), (by decide)⟩
  rintro k5 ls H locs hh5 ⟨be9, i9, hk5, hl, hH, hz, hLo, rfl, I_i9, hB9, I_b9⟩ ih5
  refine lv_iload hx hb d_Mo_next_5 (lv_at hl 4 rfl) ?_
  refine lv_aload_n hx hb d_Mo_next_7 rfl (lv_at hl 0 rfl) ?_
  refine hm_get (ci := 9) (v := .int ma) (C := R_Mo) (T := F_Mo) (N := 41) hx hb hts ig_Mo hown hK hH F_m9 rfl 10 (by decide) (hts _ mw_595) (fun _ h9 => h9) rfl d_Mo_next_8 ?_
  refine lv_icmp_ge (tgt := 119) hx hb d_Mo_next_11 (by decide) (fun hc_7 => ?_) (fun hc_7 => ?_)
  · skip
    have ic_8 : ma.toInt ≤ i9.toInt := iLe hc_7
    refine lv_iload_n hx hb d_Mo_next_119 rfl (lv_at hl 3 rfl) ?_
    exact W.iret (v := be9) hx hb hr (fun t9 ht hW => ⟨be9, h, rfl, ⟨(by rw [aI_of F_A4, aI_of F_A5, aI_of F_A6, aJ_of F_A7]; exact hB9), rfl⟩, by rw [ht]; exact hH, by rw [ht]; exact hz⟩) hLo d_Mo_next_120
  · skip
    have ic_9 : i9.toInt < ma.toInt := iNe hc_7
    have iu_10 : ma.toInt < 2147483648 := iUp _
    refine lv_aload_n hx hb d_Mo_next_14 rfl (lv_at hl 0 rfl) ?_
    refine hm_get (ci := 9) (v := .ref (A 4)) (C := R_Mo) (T := F_Mo) (N := 41) hx hb hts ig_Mo hown hK hH F_m9 rfl 11 (by decide) (hts _ mw_596) (fun _ h9 => h9) rfl d_Mo_next_15 ?_
    refine lv_iload hx hb d_Mo_next_18 (lv_at hl 4 rfl) ?_
    refine hm_zald hx hb hK hH 1 F_A4 rfl (iIn (by omega) (by omega)) d_Mo_next_20 ?_
    refine lv_topi (fun v_11 e_12 => ?_)
    have c_13 : zb v_11 := by rw [e_12]; exact c_2 _
    refine lv_if_eq (tgt := 113) hx hb d_Mo_next_21 (by decide) (fun hc_14 => ?_) (fun hc_14 => ?_)
    · skip
      have ic_15 : v_11.toInt = 0 := congrArg Int32.toInt hc_14
      obtain ⟨j_16, e_17⟩ : ∃ z : Int32, z = i9 + 1 := ⟨_, rfl⟩
      refine lv_iinc (v := j_16) (lv' := [(4, .int j_16), (0, .ref m9), (1, .int d9), (2, .int b9), (3, .int be9)]) hx hb d_Mo_next_113 hl (k := 4) rfl e_17.symm (by decide) rfl (fun ls hl => ?_)
      refine lv_goto (tgt := 5) hx hb d_Mo_next_116 (by decide) ?_
      have is_18 : j_16.toInt = i9.toInt + 1 := by rw [e_17]; exact iAddK 1 rfl (by omega) (by omega)
      exact ih5 (mU j_16) ls _ locs _ (by rw [hk5]; exact mU_lt (by omega)) ⟨be9, j_16, rfl, (lv_sub hl [1, 2, 3, 4, 0] rfl), hH, hz, hLo, rfl, (by omega), hB9, (by omega)⟩
    · skip
      refine lv_aload_n hx hb d_Mo_next_24 rfl (lv_at hl 0 rfl) ?_
      refine hm_get (ci := 9) (v := .ref (A 6)) (C := R_Mo) (T := F_Mo) (N := 41) hx hb hts ig_Mo hown hK hH F_m9 rfl 13 (by decide) (hts _ mw_597) (fun _ h9 => h9) rfl d_Mo_next_25 ?_
      refine lv_iload hx hb d_Mo_next_28 (lv_at hl 4 rfl) ?_
      refine hm_iald hx hb hK hH 2 F_A6 rfl (iIn (by omega) (by omega)) d_Mo_next_30 ?_
      refine lv_topi (fun v_19 e_20 => ?_)
      refine lv_iload_n hx hb d_Mo_next_31 rfl (lv_at hl 1 rfl) ?_
      refine lv_icmp_ne (tgt := 113) hx hb d_Mo_next_32 (by decide) (fun hc_21 => ?_) (fun hc_21 => ?_)
      · skip
        obtain ⟨j_22, e_23⟩ : ∃ z : Int32, z = i9 + 1 := ⟨_, rfl⟩
        refine lv_iinc (v := j_22) (lv' := [(4, .int j_22), (0, .ref m9), (1, .int d9), (2, .int b9), (3, .int be9)]) hx hb d_Mo_next_113 hl (k := 4) rfl e_23.symm (by decide) rfl (fun ls hl => ?_)
        refine lv_goto (tgt := 5) hx hb d_Mo_next_116 (by decide) ?_
        have is_24 : j_22.toInt = i9.toInt + 1 := by rw [e_23]; exact iAddK 1 rfl (by omega) (by omega)
        exact ih5 (mU j_22) ls _ locs _ (by rw [hk5]; exact mU_lt (by omega)) ⟨be9, j_22, rfl, (lv_sub hl [1, 2, 3, 4, 0] rfl), hH, hz, hLo, rfl, (by omega), hB9, (by omega)⟩
      · skip
        have ic_25 : v_19.toInt = d9.toInt := congrArg Int32.toInt hc_21
        refine lv_iload_n hx hb d_Mo_next_35 rfl (lv_at hl 2 rfl) ?_
        refine lv_if_lt (tgt := 74) hx hb d_Mo_next_36 (by decide) (fun hc_26 => ?_) (fun hc_26 => ?_)
        · skip
          have ic_27 : b9.toInt < 0 := iLt hc_26
          refine lv_iload_n hx hb d_Mo_next_74 rfl (lv_at hl 3 rfl) ?_
          refine lv_if_lt (tgt := 110) hx hb d_Mo_next_75 (by decide) (fun hc_28 => ?_) (fun hc_28 => ?_)
          · skip
            have ic_29 : be9.toInt < 0 := iLt hc_28
            refine lv_iload hx hb d_Mo_next_110 (lv_at hl 4 rfl) ?_
            refine lv_istore_n (lv' := [(3, .int i9), (0, .ref m9), (1, .int d9), (2, .int b9), (4, .int i9)]) hx hb d_Mo_next_112 rfl hl (by decide) rfl (fun ls hl => ?_)
            obtain ⟨j_30, e_31⟩ : ∃ z : Int32, z = i9 + 1 := ⟨_, rfl⟩
            refine lv_iinc (v := j_30) (lv' := [(4, .int j_30), (3, .int i9), (0, .ref m9), (1, .int d9), (2, .int b9)]) hx hb d_Mo_next_113 hl (k := 4) rfl e_31.symm (by decide) rfl (fun ls hl => ?_)
            refine lv_goto (tgt := 5) hx hb d_Mo_next_116 (by decide) ?_
            have is_32 : j_30.toInt = i9.toInt + 1 := by rw [e_31]; exact iAddK 1 rfl (by omega) (by omega)
            exact ih5 (mU j_30) ls _ locs _ (by rw [hk5]; exact mU_lt (by omega)) ⟨i9, j_30, rfl, (lv_sub hl [2, 3, 4, 1, 0] rfl), hH, hz, hLo, rfl, (by omega), (Or.inr ⟨by omega, by omega, by rw [← clN, ← e_12]; exact (c_13.resolve_left hc_14), by rw [← clN, ← e_20]; exact hc_21, (fun hb => absurd hb (by omega))⟩), (by omega)⟩
          · skip
            have ic_33 : 0 ≤ be9.toInt := iNl hc_28
            refine lv_aload_n hx hb d_Mo_next_78 rfl (lv_at hl 0 rfl) ?_
            refine hm_get (ci := 9) (v := .ref (A 7)) (C := R_Mo) (T := F_Mo) (N := 41) hx hb hts ig_Mo hown hK hH F_m9 rfl 14 (by decide) (hts _ mw_598) (fun _ h9 => h9) rfl d_Mo_next_79 ?_
            refine lv_iload hx hb d_Mo_next_82 (lv_at hl 4 rfl) ?_
            refine hm_lald hx hb hK hH 3 F_A7 rfl (iIn (by omega) (by omega)) d_Mo_next_84 ?_
            refine lv_topl (fun v_34 e_35 => ?_)
            refine lv_aload_n hx hb d_Mo_next_85 rfl (lv_at hl 0 rfl) ?_
            refine hm_get (ci := 9) (v := .ref (A 5)) (C := R_Mo) (T := F_Mo) (N := 41) hx hb hts ig_Mo hown hK hH F_m9 rfl 12 (by decide) (hts _ mw_606) (fun _ h9 => h9) rfl d_Mo_next_86 ?_
            refine lv_iload hx hb d_Mo_next_89 (lv_at hl 4 rfl) ?_
            refine hm_zald hx hb hK hH 1 F_A5 rfl (iIn (by omega) (by omega)) d_Mo_next_91 ?_
            refine lv_topi (fun v_36 e_37 => ?_)
            have c_38 : zb v_36 := by rw [e_37]; exact c_4 _
            refine lv_aload_n hx hb d_Mo_next_92 rfl (lv_at hl 0 rfl) ?_
            refine hm_get (ci := 9) (v := .ref (A 7)) (C := R_Mo) (T := F_Mo) (N := 41) hx hb hts ig_Mo hown hK hH F_m9 rfl 14 (by decide) (hts _ mw_598) (fun _ h9 => h9) rfl d_Mo_next_93 ?_
            refine lv_iload_n hx hb d_Mo_next_96 rfl (lv_at hl 3 rfl) ?_
            refine hm_lald hx hb hK hH 3 F_A7 rfl (iIn (by omega) (by omega)) d_Mo_next_97 ?_
            refine lv_topl (fun v_39 e_40 => ?_)
            refine lv_aload_n hx hb d_Mo_next_98 rfl (lv_at hl 0 rfl) ?_
            refine hm_get (ci := 9) (v := .ref (A 5)) (C := R_Mo) (T := F_Mo) (N := 41) hx hb hts ig_Mo hown hK hH F_m9 rfl 12 (by decide) (hts _ mw_606) (fun _ h9 => h9) rfl d_Mo_next_99 ?_
            refine lv_iload_n hx hb d_Mo_next_102 rfl (lv_at hl 3 rfl) ?_
            refine hm_zald hx hb hK hH 1 F_A5 rfl (iIn (by omega) (by omega)) d_Mo_next_103 ?_
            refine lv_topi (fun v_41 e_42 => ?_)
            have c_43 : zb v_41 := by rw [e_42]; exact c_4 _
            refine hm_callPi (va_runS (As := [.long v_34, .int v_36, .long v_39, .int v_41]) (rest := []) ⟨hx, hb, hml, hown, hts⟩ (m_compare l D t G ak av h τ n v_34 v_36 v_39 v_41    hn hT c_38 c_43   ) ⟨cw9B 4 hts mw_643 mw_644 mw_579 rfl rfl (by decide +kernel) ⟨Nat.le_of_ble_eq_true rfl, Nat.le_of_ble_eq_true rfl⟩, hts _ mw_645⟩ (hP_S kE_ok hE hH) rfl rfl hl.1 rfl (lv_room (Nat.le_of_ble_eq_true rfl)) d_Mo_next_104 ⟨Nat.le_of_ble_eq_true rfl, Nat.le_of_ble_eq_true rfl⟩) (fun r_44 h_45 H_46 hp_48  hH z_47 => ?_)
            have hz : s.heap.size ≤ H_46.size := Nat.le_trans hz z_47
            obtain ⟨xp_49, rfl⟩ := hp_48
            refine lv_if_ge (tgt := 113) hx hb d_Mo_next_107 (by decide) (fun hc_50 => ?_) (fun hc_50 => ?_)
            · skip
              have ic_51 : 0 ≤ r_44.toInt := iLe hc_50
              obtain ⟨j_52, e_53⟩ : ∃ z : Int32, z = i9 + 1 := ⟨_, rfl⟩
              refine lv_iinc (v := j_52) (lv' := [(4, .int j_52), (0, .ref m9), (1, .int d9), (2, .int b9), (3, .int be9)]) hx hb d_Mo_next_113 hl (k := 4) rfl e_53.symm (by decide) rfl (fun ls hl => ?_)
              refine lv_goto (tgt := 5) hx hb d_Mo_next_116 (by decide) ?_
              have is_54 : j_52.toInt = i9.toInt + 1 := by rw [e_53]; exact iAddK 1 rfl (by omega) (by omega)
              exact ih5 (mU j_52) ls _ locs _ (by rw [hk5]; exact mU_lt (by omega)) ⟨be9, j_52, rfl, (lv_sub hl [1, 2, 3, 4, 0] rfl), hH, hz, hLo, rfl, (by omega), hB9, (by omega)⟩
            · skip
              have ic_55 : r_44.toInt < 0 := iNe hc_50
              refine lv_iload hx hb d_Mo_next_110 (lv_at hl 4 rfl) ?_
              refine lv_istore_n (lv' := [(3, .int i9), (0, .ref m9), (1, .int d9), (2, .int b9), (4, .int i9)]) hx hb d_Mo_next_112 rfl hl (by decide) rfl (fun ls hl => ?_)
              obtain ⟨j_56, e_57⟩ : ∃ z : Int32, z = i9 + 1 := ⟨_, rfl⟩
              refine lv_iinc (v := j_56) (lv' := [(4, .int j_56), (3, .int i9), (0, .ref m9), (1, .int d9), (2, .int b9)]) hx hb d_Mo_next_113 hl (k := 4) rfl e_57.symm (by decide) rfl (fun ls hl => ?_)
              refine lv_goto (tgt := 5) hx hb d_Mo_next_116 (by decide) ?_
              have is_58 : j_56.toInt = i9.toInt + 1 := by rw [e_57]; exact iAddK 1 rfl (by omega) (by omega)
              exact ih5 (mU j_56) ls _ locs _ (by rw [hk5]; exact mU_lt (by omega)) ⟨i9, j_56, rfl, (lv_sub hl [2, 3, 4, 1, 0] rfl), hH, hz, hLo, rfl, (by omega), (Or.inr ⟨by omega, by omega, by rw [← clN, ← e_12]; exact (c_13.resolve_left hc_14), by rw [← clN, ← e_20]; exact hc_21, (fun hb => absurd hb (by omega))⟩), (by omega)⟩
        · skip
          have ic_59 : 0 ≤ b9.toInt := iNl hc_26
          refine lv_aload_n hx hb d_Mo_next_39 rfl (lv_at hl 0 rfl) ?_
          refine hm_get (ci := 9) (v := .ref (A 7)) (C := R_Mo) (T := F_Mo) (N := 41) hx hb hts ig_Mo hown hK hH F_m9 rfl 14 (by decide) (hts _ mw_598) (fun _ h9 => h9) rfl d_Mo_next_40 ?_
          refine lv_iload hx hb d_Mo_next_43 (lv_at hl 4 rfl) ?_
          refine hm_lald hx hb hK hH 3 F_A7 rfl (iIn (by omega) (by omega)) d_Mo_next_45 ?_
          refine lv_topl (fun v_60 e_61 => ?_)
          refine lv_aload_n hx hb d_Mo_next_46 rfl (lv_at hl 0 rfl) ?_
          refine hm_get (ci := 9) (v := .ref (A 5)) (C := R_Mo) (T := F_Mo) (N := 41) hx hb hts ig_Mo hown hK hH F_m9 rfl 12 (by decide) (hts _ mw_606) (fun _ h9 => h9) rfl d_Mo_next_47 ?_
          refine lv_iload hx hb d_Mo_next_50 (lv_at hl 4 rfl) ?_
          refine hm_zald hx hb hK hH 1 F_A5 rfl (iIn (by omega) (by omega)) d_Mo_next_52 ?_
          refine lv_topi (fun v_62 e_63 => ?_)
          have c_64 : zb v_62 := by rw [e_63]; exact c_4 _
          refine lv_aload_n hx hb d_Mo_next_53 rfl (lv_at hl 0 rfl) ?_
          refine hm_get (ci := 9) (v := .ref (A 7)) (C := R_Mo) (T := F_Mo) (N := 41) hx hb hts ig_Mo hown hK hH F_m9 rfl 14 (by decide) (hts _ mw_598) (fun _ h9 => h9) rfl d_Mo_next_54 ?_
          refine lv_iload_n hx hb d_Mo_next_57 rfl (lv_at hl 2 rfl) ?_
          refine hm_lald hx hb hK hH 3 F_A7 rfl (iIn (by omega) (by omega)) d_Mo_next_58 ?_
          refine lv_topl (fun v_65 e_66 => ?_)
          refine lv_aload_n hx hb d_Mo_next_59 rfl (lv_at hl 0 rfl) ?_
          refine hm_get (ci := 9) (v := .ref (A 5)) (C := R_Mo) (T := F_Mo) (N := 41) hx hb hts ig_Mo hown hK hH F_m9 rfl 12 (by decide) (hts _ mw_606) (fun _ h9 => h9) rfl d_Mo_next_60 ?_
          refine lv_iload_n hx hb d_Mo_next_63 rfl (lv_at hl 2 rfl) ?_
          refine hm_zald hx hb hK hH 1 F_A5 rfl (iIn (by omega) (by omega)) d_Mo_next_64 ?_
          refine lv_topi (fun v_67 e_68 => ?_)
          have c_69 : zb v_67 := by rw [e_68]; exact c_4 _
          refine hm_callPi (va_runS (As := [.long v_60, .int v_62, .long v_65, .int v_67]) (rest := []) ⟨hx, hb, hml, hown, hts⟩ (m_compare l D t G ak av h τ n v_60 v_62 v_65 v_67    hn hT c_64 c_69   ) ⟨cw9B 4 hts mw_643 mw_644 mw_579 rfl rfl (by decide +kernel) ⟨Nat.le_of_ble_eq_true rfl, Nat.le_of_ble_eq_true rfl⟩, hts _ mw_645⟩ (hP_S kE_ok hE hH) rfl rfl hl.1 rfl (lv_room (Nat.le_of_ble_eq_true rfl)) d_Mo_next_65 ⟨Nat.le_of_ble_eq_true rfl, Nat.le_of_ble_eq_true rfl⟩) (fun r_70 h_71 H_72 hp_74  hH z_73 => ?_)
          have hz : s.heap.size ≤ H_72.size := Nat.le_trans hz z_73
          obtain ⟨xp_75, rfl⟩ := hp_74
          refine lv_if_gt (tgt := 74) hx hb d_Mo_next_68 (by decide) (fun hc_76 => ?_) (fun hc_76 => ?_)
          · skip
            have ic_77 : 0 < r_70.toInt := iLt hc_76
            have iu_78 : r_70.toInt < 2147483648 := iUp _
            refine lv_iload_n hx hb d_Mo_next_74 rfl (lv_at hl 3 rfl) ?_
            refine lv_if_lt (tgt := 110) hx hb d_Mo_next_75 (by decide) (fun hc_79 => ?_) (fun hc_79 => ?_)
            · skip
              have ic_80 : be9.toInt < 0 := iLt hc_79
              refine lv_iload hx hb d_Mo_next_110 (lv_at hl 4 rfl) ?_
              refine lv_istore_n (lv' := [(3, .int i9), (0, .ref m9), (1, .int d9), (2, .int b9), (4, .int i9)]) hx hb d_Mo_next_112 rfl hl (by decide) rfl (fun ls hl => ?_)
              obtain ⟨j_81, e_82⟩ : ∃ z : Int32, z = i9 + 1 := ⟨_, rfl⟩
              refine lv_iinc (v := j_81) (lv' := [(4, .int j_81), (3, .int i9), (0, .ref m9), (1, .int d9), (2, .int b9)]) hx hb d_Mo_next_113 hl (k := 4) rfl e_82.symm (by decide) rfl (fun ls hl => ?_)
              refine lv_goto (tgt := 5) hx hb d_Mo_next_116 (by decide) ?_
              have is_83 : j_81.toInt = i9.toInt + 1 := by rw [e_82]; exact iAddK 1 rfl (by omega) (by omega)
              exact ih5 (mU j_81) ls _ locs _ (by rw [hk5]; exact mU_lt (by omega)) ⟨i9, j_81, rfl, (lv_sub hl [2, 3, 4, 1, 0] rfl), hH, hz, hLo, rfl, (by omega), (Or.inr ⟨by omega, by omega, by rw [← clN, ← e_12]; exact (c_13.resolve_left hc_14), by rw [← clN, ← e_20]; exact hc_21, (fun _ => by have hq := xp_75 (by omega); rw [e_61, e_63, e_66, e_68, clN] at hq; exact hq)⟩), (by omega)⟩
            · skip
              have ic_84 : 0 ≤ be9.toInt := iNl hc_79
              refine lv_aload_n hx hb d_Mo_next_78 rfl (lv_at hl 0 rfl) ?_
              refine hm_get (ci := 9) (v := .ref (A 7)) (C := R_Mo) (T := F_Mo) (N := 41) hx hb hts ig_Mo hown hK hH F_m9 rfl 14 (by decide) (hts _ mw_598) (fun _ h9 => h9) rfl d_Mo_next_79 ?_
              refine lv_iload hx hb d_Mo_next_82 (lv_at hl 4 rfl) ?_
              refine hm_lald hx hb hK hH 3 F_A7 rfl (iIn (by omega) (by omega)) d_Mo_next_84 ?_
              refine lv_topl (fun v_85 e_86 => ?_)
              obtain rfl : v_60 = v_85 := (e_86.trans (e_61.symm)).symm
              refine lv_aload_n hx hb d_Mo_next_85 rfl (lv_at hl 0 rfl) ?_
              refine hm_get (ci := 9) (v := .ref (A 5)) (C := R_Mo) (T := F_Mo) (N := 41) hx hb hts ig_Mo hown hK hH F_m9 rfl 12 (by decide) (hts _ mw_606) (fun _ h9 => h9) rfl d_Mo_next_86 ?_
              refine lv_iload hx hb d_Mo_next_89 (lv_at hl 4 rfl) ?_
              refine hm_zald hx hb hK hH 1 F_A5 rfl (iIn (by omega) (by omega)) d_Mo_next_91 ?_
              refine lv_topi (fun v_87 e_88 => ?_)
              obtain rfl : v_62 = v_87 := (e_88.trans (e_63.symm)).symm
              refine lv_aload_n hx hb d_Mo_next_92 rfl (lv_at hl 0 rfl) ?_
              refine hm_get (ci := 9) (v := .ref (A 7)) (C := R_Mo) (T := F_Mo) (N := 41) hx hb hts ig_Mo hown hK hH F_m9 rfl 14 (by decide) (hts _ mw_598) (fun _ h9 => h9) rfl d_Mo_next_93 ?_
              refine lv_iload_n hx hb d_Mo_next_96 rfl (lv_at hl 3 rfl) ?_
              refine hm_lald hx hb hK hH 3 F_A7 rfl (iIn (by omega) (by omega)) d_Mo_next_97 ?_
              refine lv_topl (fun v_89 e_90 => ?_)
              refine lv_aload_n hx hb d_Mo_next_98 rfl (lv_at hl 0 rfl) ?_
              refine hm_get (ci := 9) (v := .ref (A 5)) (C := R_Mo) (T := F_Mo) (N := 41) hx hb hts ig_Mo hown hK hH F_m9 rfl 12 (by decide) (hts _ mw_606) (fun _ h9 => h9) rfl d_Mo_next_99 ?_
              refine lv_iload_n hx hb d_Mo_next_102 rfl (lv_at hl 3 rfl) ?_
              refine hm_zald hx hb hK hH 1 F_A5 rfl (iIn (by omega) (by omega)) d_Mo_next_103 ?_
              refine lv_topi (fun v_91 e_92 => ?_)
              have c_93 : zb v_91 := by rw [e_92]; exact c_4 _
              refine hm_callPi (va_runS (As := [.long v_60, .int v_62, .long v_89, .int v_91]) (rest := []) ⟨hx, hb, hml, hown, hts⟩ (m_compare l D t G ak av h τ n v_60 v_62 v_89 v_91    hn hT c_64 c_93   ) ⟨cw9B 4 hts mw_643 mw_644 mw_579 rfl rfl (by decide +kernel) ⟨Nat.le_of_ble_eq_true rfl, Nat.le_of_ble_eq_true rfl⟩, hts _ mw_645⟩ (hP_S kE_ok hE hH) rfl rfl hl.1 rfl (lv_room (Nat.le_of_ble_eq_true rfl)) d_Mo_next_104 ⟨Nat.le_of_ble_eq_true rfl, Nat.le_of_ble_eq_true rfl⟩) (fun r_94 h_95 H_96 hp_98  hH z_97 => ?_)
              have hz : s.heap.size ≤ H_96.size := Nat.le_trans hz z_97
              obtain ⟨xp_99, rfl⟩ := hp_98
              refine lv_if_ge (tgt := 113) hx hb d_Mo_next_107 (by decide) (fun hc_100 => ?_) (fun hc_100 => ?_)
              · skip
                have ic_101 : 0 ≤ r_94.toInt := iLe hc_100
                obtain ⟨j_102, e_103⟩ : ∃ z : Int32, z = i9 + 1 := ⟨_, rfl⟩
                refine lv_iinc (v := j_102) (lv' := [(4, .int j_102), (0, .ref m9), (1, .int d9), (2, .int b9), (3, .int be9)]) hx hb d_Mo_next_113 hl (k := 4) rfl e_103.symm (by decide) rfl (fun ls hl => ?_)
                refine lv_goto (tgt := 5) hx hb d_Mo_next_116 (by decide) ?_
                have is_104 : j_102.toInt = i9.toInt + 1 := by rw [e_103]; exact iAddK 1 rfl (by omega) (by omega)
                exact ih5 (mU j_102) ls _ locs _ (by rw [hk5]; exact mU_lt (by omega)) ⟨be9, j_102, rfl, (lv_sub hl [1, 2, 3, 4, 0] rfl), hH, hz, hLo, rfl, (by omega), hB9, (by omega)⟩
              · skip
                have ic_105 : r_94.toInt < 0 := iNe hc_100
                refine lv_iload hx hb d_Mo_next_110 (lv_at hl 4 rfl) ?_
                refine lv_istore_n (lv' := [(3, .int i9), (0, .ref m9), (1, .int d9), (2, .int b9), (4, .int i9)]) hx hb d_Mo_next_112 rfl hl (by decide) rfl (fun ls hl => ?_)
                obtain ⟨j_106, e_107⟩ : ∃ z : Int32, z = i9 + 1 := ⟨_, rfl⟩
                refine lv_iinc (v := j_106) (lv' := [(4, .int j_106), (3, .int i9), (0, .ref m9), (1, .int d9), (2, .int b9)]) hx hb d_Mo_next_113 hl (k := 4) rfl e_107.symm (by decide) rfl (fun ls hl => ?_)
                refine lv_goto (tgt := 5) hx hb d_Mo_next_116 (by decide) ?_
                have is_108 : j_106.toInt = i9.toInt + 1 := by rw [e_107]; exact iAddK 1 rfl (by omega) (by omega)
                exact ih5 (mU j_106) ls _ locs _ (by rw [hk5]; exact mU_lt (by omega)) ⟨i9, j_106, rfl, (lv_sub hl [2, 3, 4, 1, 0] rfl), hH, hz, hLo, rfl, (by omega), (Or.inr ⟨by omega, by omega, by rw [← clN, ← e_12]; exact (c_13.resolve_left hc_14), by rw [← clN, ← e_20]; exact hc_21, (fun _ => by have hq := xp_75 (by omega); rw [e_61, e_63, e_66, e_68, clN] at hq; exact hq)⟩), (by omega)⟩
          · skip
            have ic_109 : r_70.toInt ≤ 0 := iNl hc_76
            refine lv_goto (tgt := 113) hx hb d_Mo_next_71 (by decide) ?_
            obtain ⟨j_110, e_111⟩ : ∃ z : Int32, z = i9 + 1 := ⟨_, rfl⟩
            refine lv_iinc (v := j_110) (lv' := [(4, .int j_110), (0, .ref m9), (1, .int d9), (2, .int b9), (3, .int be9)]) hx hb d_Mo_next_113 hl (k := 4) rfl e_111.symm (by decide) rfl (fun ls hl => ?_)
            refine lv_goto (tgt := 5) hx hb d_Mo_next_116 (by decide) ?_
            have is_112 : j_110.toInt = i9.toInt + 1 := by rw [e_111]; exact iAddK 1 rfl (by omega) (by omega)
            exact ih5 (mU j_110) ls _ locs _ (by rw [hk5]; exact mU_lt (by omega)) ⟨be9, j_110, rfl, (lv_sub hl [1, 2, 3, 4, 0] rfl), hH, hz, hLo, rfl, (by omega), hB9, (by omega)⟩
