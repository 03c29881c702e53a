set_option maxRecDepth 100000 in
theorem mw_577 : Cond.constantLong R_Mo 129 (255) ∈ lw_g := lw_gin (List.mem_append_right _ (List.mem_of_getElem? (i := 1065) rfl)) (by decide +kernel)
set_option maxRecDepth 100000 in
theorem mw_578 : Cond.code y_Mo_isLetter b_Mo_isLetter 1 (some .boolean) ∈ lw_g := lw_gin (List.mem_append_right _ (List.mem_of_getElem? (i := 1068) rfl)) (by decide +kernel)
set_option maxRecDepth 100000 in
theorem mw_579 : Cond.initialized R_Mo ∈ lw_g := lw_gin (List.mem_append_right _ (List.mem_of_getElem? (i := 10) rfl)) (by decide +kernel)
set_option maxRecDepth 100000 in
theorem mw_580 : Cond.methodLink R_Mo 131 y_Mo_isLetter ∈ lw_g := lw_gin (List.mem_append_right _ (List.mem_of_getElem? (i := 1066) rfl)) (by decide +kernel)
set_option maxRecDepth 100000 in
theorem mw_581 : Cond.static y_Mo_isLetter ∈ lw_g := lw_gin (List.mem_append_right _ (List.mem_of_getElem? (i := 1067) rfl)) (by decide +kernel)
set_option maxRecDepth 100000 in
theorem mw_582 : Cond.code y_Mo_in b_Mo_in 3 (some .boolean) ∈ lw_g := lw_gin (List.mem_append_right _ (List.mem_of_getElem? (i := 1049) rfl)) (by decide +kernel)
set_option maxRecDepth 100000 in
theorem mw_583 : Cond.methodLink R_Mo 118 y_Mo_in ∈ lw_g := lw_gin (List.mem_append_right _ (List.mem_of_getElem? (i := 1047) rfl)) (by decide +kernel)
set_option maxRecDepth 100000 in
theorem mw_584 : Cond.static y_Mo_in ∈ lw_g := lw_gin (List.mem_append_right _ (List.mem_of_getElem? (i := 1048) rfl)) (by decide +kernel)
set_option maxRecDepth 100000 in
theorem mw_585 : Cond.fieldLink R_Mo 8 "WriteOnceDiscModel" "bytes" "[B" ∈ lw_g := lw_gin (List.mem_append_right _ (List.mem_of_getElem? (i := 920) rfl)) (by decide +kernel)
set_option maxRecDepth 100000 in
theorem mw_586 : Cond.fieldLink R_Mo 115 "WriteOnceDiscModel" "side" "I" ∈ lw_g := lw_gin (List.mem_append_right _ (List.mem_of_getElem? (i := 919) rfl)) (by decide +kernel)
set_option maxRecDepth 100000 in
theorem mw_587 : Cond.fieldLink R_Mo 99 "WriteOnceDiscModel" "sectors" "I" ∈ lw_g := lw_gin (List.mem_append_right _ (List.mem_of_getElem? (i := 918) rfl)) (by decide +kernel)
set_option maxRecDepth 100000 in
theorem mw_588 : Cond.fieldLink R_Mo 14 "WriteOnceDiscModel" "states" "[B" ∈ lw_g := lw_gin (List.mem_append_right _ (List.mem_of_getElem? (i := 921) rfl)) (by decide +kernel)
theorem d_Mo_in_0 : decode b_Mo_in 0 = .ok (.iload_n 0, 1) := by decide +kernel
theorem d_Mo_in_1 : decode b_Mo_in 1 = .ok (.iload_n 1, 1) := by decide +kernel
theorem d_Mo_in_2 : decode b_Mo_in 2 = .ok (.if_icmp .lt 12, 3) := by decide +kernel
theorem d_Mo_in_14 : decode b_Mo_in 14 = .ok (.iconst 0, 1) := by decide +kernel
theorem d_Mo_in_15 : decode b_Mo_in 15 = .ok (.ireturn, 1) := by decide +kernel
theorem d_Mo_in_5 : decode b_Mo_in 5 = .ok (.iload_n 0, 1) := by decide +kernel
theorem d_Mo_in_6 : decode b_Mo_in 6 = .ok (.iload_n 2, 1) := by decide +kernel
theorem d_Mo_in_7 : decode b_Mo_in 7 = .ok (.if_icmp .gt 7, 3) := by decide +kernel
theorem d_Mo_in_10 : decode b_Mo_in 10 = .ok (.iconst 1, 1) := by decide +kernel
theorem d_Mo_in_11 : decode b_Mo_in 11 = .ok (.goto 4, 3) := by decide +kernel
theorem d_Mo_isLetter_0 : decode b_Mo_isLetter 0 = .ok (.iload_n 0, 1) := by decide +kernel
theorem d_Mo_isLetter_1 : decode b_Mo_isLetter 1 = .ok (.bipush 65, 2) := by decide +kernel
theorem d_Mo_isLetter_3 : decode b_Mo_isLetter 3 = .ok (.if_icmp .lt 9, 3) := by decide +kernel
theorem d_Mo_isLetter_12 : decode b_Mo_isLetter 12 = .ok (.iload_n 0, 1) := by decide +kernel
theorem d_Mo_isLetter_13 : decode b_Mo_isLetter 13 = .ok (.bipush 48, 2) := by decide +kernel
theorem d_Mo_isLetter_15 : decode b_Mo_isLetter 15 = .ok (.if_icmp .lt 9, 3) := by decide +kernel
theorem d_Mo_isLetter_24 : decode b_Mo_isLetter 24 = .ok (.iload_n 0, 1) := by decide +kernel
theorem d_Mo_isLetter_25 : decode b_Mo_isLetter 25 = .ok (.bipush 95, 2) := by decide +kernel
theorem d_Mo_isLetter_27 : decode b_Mo_isLetter 27 = .ok (.if_icmp .ne 7, 3) := by decide +kernel
theorem d_Mo_isLetter_34 : decode b_Mo_isLetter 34 = .ok (.iconst 0, 1) := by decide +kernel
theorem d_Mo_isLetter_35 : decode b_Mo_isLetter 35 = .ok (.ireturn, 1) := by decide +kernel
theorem d_Mo_isLetter_30 : decode b_Mo_isLetter 30 = .ok (.iconst 1, 1) := by decide +kernel
theorem d_Mo_isLetter_31 : decode b_Mo_isLetter 31 = .ok (.goto 4, 3) := by decide +kernel
theorem d_Mo_isLetter_18 : decode b_Mo_isLetter 18 = .ok (.iload_n 0, 1) := by decide +kernel
theorem d_Mo_isLetter_19 : decode b_Mo_isLetter 19 = .ok (.bipush 57, 2) := by decide +kernel
theorem d_Mo_isLetter_21 : decode b_Mo_isLetter 21 = .ok (.if_icmp .le 9, 3) := by decide +kernel
theorem d_Mo_isLetter_6 : decode b_Mo_isLetter 6 = .ok (.iload_n 0, 1) := by decide +kernel
theorem d_Mo_isLetter_7 : decode b_Mo_isLetter 7 = .ok (.bipush 90, 2) := by decide +kernel
theorem d_Mo_isLetter_9 : decode b_Mo_isLetter 9 = .ok (.if_icmp .le 21, 3) := by decide +kernel
theorem d_Mo_told_0 : decode b_Mo_told 0 = .ok (.lconst 0, 1) := by decide +kernel
theorem d_Mo_told_1 : decode b_Mo_told 1 = .ok (.lstore_n 2, 1) := by decide +kernel
theorem d_Mo_told_2 : decode b_Mo_told 2 = .ok (.bipush 7, 2) := by decide +kernel
theorem d_Mo_told_4 : decode b_Mo_told 4 = .ok (.istore 4, 2) := by decide +kernel
theorem d_Mo_told_6 : decode b_Mo_told 6 = .ok (.iload 4, 2) := by decide +kernel
theorem d_Mo_told_8 : decode b_Mo_told 8 = .ok (.ifCond .lt 50, 3) := by decide +kernel
theorem d_Mo_told_58 : decode b_Mo_told 58 = .ok (.lload_n 2, 1) := by decide +kernel
theorem d_Mo_told_59 : decode b_Mo_told 59 = .ok (.lreturn, 1) := by decide +kernel
theorem d_Mo_told_11 : decode b_Mo_told 11 = .ok (.lload_n 0, 1) := by decide +kernel
theorem d_Mo_told_12 : decode b_Mo_told 12 = .ok (.bipush 8, 2) := by decide +kernel
theorem d_Mo_told_14 : decode b_Mo_told 14 = .ok (.iload 4, 2) := by decide +kernel
theorem d_Mo_told_16 : decode b_Mo_told 16 = .ok (.imul, 1) := by decide +kernel
theorem d_Mo_told_17 : decode b_Mo_told 17 = .ok (.lushr, 1) := by decide +kernel
theorem d_Mo_told_18 : decode b_Mo_told 18 = .ok (.ldc2_w 129, 3) := by decide +kernel
theorem d_Mo_told_21 : decode b_Mo_told 21 = .ok (.land, 1) := by decide +kernel
theorem d_Mo_told_22 : decode b_Mo_told 22 = .ok (.l2i, 1) := by decide +kernel
theorem d_Mo_told_23 : decode b_Mo_told 23 = .ok (.istore 5, 2) := by decide +kernel
theorem d_Mo_told_25 : decode b_Mo_told 25 = .ok (.iload 5, 2) := by decide +kernel
theorem d_Mo_told_27 : decode b_Mo_told 27 = .ok (.ifCond .ne 6, 3) := by decide +kernel
theorem d_Mo_told_33 : decode b_Mo_told 33 = .ok (.iload 5, 2) := by decide +kernel
theorem d_Mo_told_35 : decode b_Mo_told 35 = .ok (.invokestatic 131, 3) := by decide +kernel
theorem d_Mo_told_38 : decode b_Mo_told 38 = .ok (.ifCond .ne 5, 3) := by decide +kernel
theorem d_Mo_told_43 : decode b_Mo_told 43 = .ok (.lload_n 2, 1) := by decide +kernel
theorem d_Mo_told_44 : decode b_Mo_told 44 = .ok (.bipush 8, 2) := by decide +kernel
theorem d_Mo_told_46 : decode b_Mo_told 46 = .ok (.lshl, 1) := by decide +kernel
theorem d_Mo_told_47 : decode b_Mo_told 47 = .ok (.iload 5, 2) := by decide +kernel
theorem d_Mo_told_49 : decode b_Mo_told 49 = .ok (.i2l, 1) := by decide +kernel
theorem d_Mo_told_50 : decode b_Mo_told 50 = .ok (.lor, 1) := by decide +kernel
theorem d_Mo_told_51 : decode b_Mo_told 51 = .ok (.lstore_n 2, 1) := by decide +kernel
theorem d_Mo_told_52 : decode b_Mo_told 52 = .ok (.iinc 4 (-1), 3) := by decide +kernel
theorem d_Mo_told_55 : decode b_Mo_told 55 = .ok (.goto (-49), 3) := by decide +kernel
theorem d_Mo_told_41 : decode b_Mo_told 41 = .ok (.lconst 0, 1) := by decide +kernel
theorem d_Mo_told_42 : decode b_Mo_told 42 = .ok (.lreturn, 1) := by decide +kernel
theorem d_Mo_told_30 : decode b_Mo_told 30 = .ok (.goto 22, 3) := by decide +kernel
theorem d_Mo_isContent_0 : decode b_Mo_isContent 0 = .ok (.iload_n 0, 1) := by decide +kernel
theorem d_Mo_isContent_1 : decode b_Mo_isContent 1 = .ok (.iconst 0, 1) := by decide +kernel
theorem d_Mo_isContent_2 : decode b_Mo_isContent 2 = .ok (.sipush 6000, 3) := by decide +kernel
theorem d_Mo_isContent_5 : decode b_Mo_isContent 5 = .ok (.invokestatic 118, 3) := by decide +kernel
theorem d_Mo_isContent_8 : decode b_Mo_isContent 8 = .ok (.ifCond .eq 18, 3) := by decide +kernel
theorem d_Mo_isContent_26 : decode b_Mo_isContent 26 = .ok (.iconst 0, 1) := by decide +kernel
theorem d_Mo_isContent_27 : decode b_Mo_isContent 27 = .ok (.ireturn, 1) := by decide +kernel
theorem d_Mo_isContent_11 : decode b_Mo_isContent 11 = .ok (.iload_n 1, 1) := by decide +kernel
theorem d_Mo_isContent_12 : decode b_Mo_isContent 12 = .ok (.iconst 0, 1) := by decide +kernel
theorem d_Mo_isContent_13 : decode b_Mo_isContent 13 = .ok (.sipush 255, 3) := by decide +kernel
theorem d_Mo_isContent_16 : decode b_Mo_isContent 16 = .ok (.invokestatic 118, 3) := by decide +kernel
theorem d_Mo_isContent_19 : decode b_Mo_isContent 19 = .ok (.ifCond .eq 7, 3) := by decide +kernel
theorem d_Mo_isContent_22 : decode b_Mo_isContent 22 = .ok (.iconst 1, 1) := by decide +kernel
theorem d_Mo_isContent_23 : decode b_Mo_isContent 23 = .ok (.goto 4, 3) := by decide +kernel
theorem d_Mo_even_0 : decode b_Mo_even 0 = .ok (.iload_n 0, 1) := by decide +kernel
theorem d_Mo_even_1 : decode b_Mo_even 1 = .ok (.iload_n 0, 1) := by decide +kernel
theorem d_Mo_even_2 : decode b_Mo_even 2 = .ok (.iconst 2, 1) := by decide +kernel
theorem d_Mo_even_3 : decode b_Mo_even 3 = .ok (.irem, 1) := by decide +kernel
theorem d_Mo_even_4 : decode b_Mo_even 4 = .ok (.iadd, 1) := by decide +kernel
theorem d_Mo_even_5 : decode b_Mo_even 5 = .ok (.ireturn, 1) := by decide +kernel
theorem d_Mo_get_0 : decode b_Mo_get 0 = .ok (.aload_n 0, 1) := by decide +kernel
theorem d_Mo_get_1 : decode b_Mo_get 1 = .ok (.getfield 8, 3) := by decide +kernel
theorem d_Mo_get_4 : decode b_Mo_get 4 = .ok (.sipush 2048, 3) := by decide +kernel
theorem d_Mo_get_7 : decode b_Mo_get 7 = .ok (.aload_n 0, 1) := by decide +kernel
theorem d_Mo_get_8 : decode b_Mo_get 8 = .ok (.getfield 115, 3) := by decide +kernel
theorem d_Mo_get_11 : decode b_Mo_get 11 = .ok (.imul, 1) := by decide +kernel
theorem d_Mo_get_12 : decode b_Mo_get 12 = .ok (.iload_n 1, 1) := by decide +kernel
theorem d_Mo_get_13 : decode b_Mo_get 13 = .ok (.iadd, 1) := by decide +kernel
theorem d_Mo_get_14 : decode b_Mo_get 14 = .ok (.baload, 1) := by decide +kernel
theorem d_Mo_get_15 : decode b_Mo_get 15 = .ok (.sipush 255, 3) := by decide +kernel
theorem d_Mo_get_18 : decode b_Mo_get 18 = .ok (.iand, 1) := by decide +kernel
theorem d_Mo_get_19 : decode b_Mo_get 19 = .ok (.ireturn, 1) := by decide +kernel
theorem d_Mo_isWrittenSector_0 : decode b_Mo_isWrittenSector 0 = .ok (.iload_n 1, 1) := by decide +kernel
theorem d_Mo_isWrittenSector_1 : decode b_Mo_isWrittenSector 1 = .ok (.iconst 0, 1) := by decide +kernel
theorem d_Mo_isWrittenSector_2 : decode b_Mo_isWrittenSector 2 = .ok (.aload_n 0, 1) := by decide +kernel
theorem d_Mo_isWrittenSector_3 : decode b_Mo_isWrittenSector 3 = .ok (.getfield 99, 3) := by decide +kernel
theorem d_Mo_isWrittenSector_6 : decode b_Mo_isWrittenSector 6 = .ok (.iconst 1, 1) := by decide +kernel
theorem d_Mo_isWrittenSector_7 : decode b_Mo_isWrittenSector 7 = .ok (.isub, 1) := by decide +kernel
theorem d_Mo_isWrittenSector_8 : decode b_Mo_isWrittenSector 8 = .ok (.invokestatic 118, 3) := by decide +kernel
theorem d_Mo_isWrittenSector_11 : decode b_Mo_isWrittenSector 11 = .ok (.ifCond .eq 22, 3) := by decide +kernel
theorem d_Mo_isWrittenSector_33 : decode b_Mo_isWrittenSector 33 = .ok (.iconst 0, 1) := by decide +kernel
theorem d_Mo_isWrittenSector_34 : decode b_Mo_isWrittenSector 34 = .ok (.ireturn, 1) := by decide +kernel
theorem d_Mo_isWrittenSector_14 : decode b_Mo_isWrittenSector 14 = .ok (.aload_n 0, 1) := by decide +kernel
theorem d_Mo_isWrittenSector_15 : decode b_Mo_isWrittenSector 15 = .ok (.getfield 14, 3) := by decide +kernel
theorem d_Mo_isWrittenSector_18 : decode b_Mo_isWrittenSector 18 = .ok (.aload_n 0, 1) := by decide +kernel
theorem d_Mo_isWrittenSector_19 : decode b_Mo_isWrittenSector 19 = .ok (.getfield 115, 3) := by decide +kernel
theorem d_Mo_isWrittenSector_22 : decode b_Mo_isWrittenSector 22 = .ok (.iload_n 1, 1) := by decide +kernel
theorem d_Mo_isWrittenSector_23 : decode b_Mo_isWrittenSector 23 = .ok (.iadd, 1) := by decide +kernel
theorem d_Mo_isWrittenSector_24 : decode b_Mo_isWrittenSector 24 = .ok (.baload, 1) := by decide +kernel
theorem d_Mo_isWrittenSector_25 : decode b_Mo_isWrittenSector 25 = .ok (.iconst 1, 1) := by decide +kernel
theorem d_Mo_isWrittenSector_26 : decode b_Mo_isWrittenSector 26 = .ok (.if_icmp .ne 7, 3) := by decide +kernel
theorem d_Mo_isWrittenSector_29 : decode b_Mo_isWrittenSector 29 = .ok (.iconst 1, 1) := by decide +kernel
theorem d_Mo_isWrittenSector_30 : decode b_Mo_isWrittenSector 30 = .ok (.goto 4, 3) := by decide +kernel
theorem d_Mo_frontOf_0 : decode b_Mo_frontOf 0 = .ok (.aload_n 0, 1) := by decide +kernel
theorem d_Mo_frontOf_1 : decode b_Mo_frontOf 1 = .ok (.getfield 99, 3) := by decide +kernel
theorem d_Mo_frontOf_4 : decode b_Mo_frontOf 4 = .ok (.istore_n 2, 1) := by decide +kernel
theorem d_Mo_frontOf_5 : decode b_Mo_frontOf 5 = .ok (.iload_n 2, 1) := by decide +kernel
theorem d_Mo_frontOf_6 : decode b_Mo_frontOf 6 = .ok (.ifCond .le 22, 3) := by decide +kernel
theorem d_Mo_frontOf_28 : decode b_Mo_frontOf 28 = .ok (.iload_n 2, 1) := by decide +kernel
theorem d_Mo_frontOf_29 : decode b_Mo_frontOf 29 = .ok (.ireturn, 1) := by decide +kernel
theorem d_Mo_frontOf_9 : decode b_Mo_frontOf 9 = .ok (.aload_n 0, 1) := by decide +kernel
theorem d_Mo_frontOf_10 : decode b_Mo_frontOf 10 = .ok (.getfield 14, 3) := by decide +kernel
theorem d_Mo_frontOf_13 : decode b_Mo_frontOf 13 = .ok (.iload_n 1, 1) := by decide +kernel
theorem d_Mo_frontOf_14 : decode b_Mo_frontOf 14 = .ok (.iload_n 2, 1) := by decide +kernel
theorem d_Mo_frontOf_15 : decode b_Mo_frontOf 15 = .ok (.iadd, 1) := by decide +kernel
theorem d_Mo_frontOf_16 : decode b_Mo_frontOf 16 = .ok (.iconst 1, 1) := by decide +kernel
theorem d_Mo_frontOf_17 : decode b_Mo_frontOf 17 = .ok (.isub, 1) := by decide +kernel
theorem d_Mo_frontOf_18 : decode b_Mo_frontOf 18 = .ok (.baload, 1) := by decide +kernel
theorem d_Mo_frontOf_19 : decode b_Mo_frontOf 19 = .ok (.ifCond .ne 9, 3) := by decide +kernel
theorem d_Mo_frontOf_22 : decode b_Mo_frontOf 22 = .ok (.iinc 2 (-1), 3) := by decide +kernel
theorem d_Mo_frontOf_25 : decode b_Mo_frontOf 25 = .ok (.goto (-20), 3) := by decide +kernel
/-! MY OWN ROWS: the reference -/
abbrev mf (A : Nat → Nat) (n : Nat) (th sd lo le wr ma nu di pl se wg op : Int32) : List Value := [.int th, .int (nI n), .int sd, .ref (A 0), .ref (A 1), .ref (A 2), .int lo, .int le, .int wr, .ref (A 3), .int ma, .ref (A 4), .ref (A 5), .ref (A 6), .ref (A 7), .ref (A 8), .ref (A 9), .ref (A 10), .ref (A 11), .ref (A 12), .int nu, .ref (A 13), .int di, .int pl, .ref (A 14), .ref (A 15), .ref (A 16), .int se, .int wg, .ref (A 17), .ref (A 18), .ref (A 19), .ref (A 20), .ref (A 21), .ref (A 22), .int op, .ref (A 23), .ref (A 24), .ref (A 25), .ref (A 26), .ref (A 27)]
def mOk (sd lo ma se op : Int32) : Prop := (sd.toInt = 0 ∨ sd.toInt = 200) ∧ zb lo ∧ ma.toInt ≤ 700 ∧ (0 ≤ se.toInt ∧ se.toInt ≤ 30) ∧ (0 ≤ op.toInt ∧ op.toInt ≤ 30)
def aI (h : hM) (a : Nat) : Nat → Int32 := match h a with
  | some (.inl (_, _, .inl g)) => g
  | _ => fun _ => 0
def aJ (h : hM) (a : Nat) : Nat → Int64 := match h a with
  | some (.inl (_, _, .inr (.inl g))) => g
  | _ => fun _ => 0
theorem aI_of {h : hM} {a L : Nat} {c : ClassId} {g : Nat → Int32} (e : h a = some (.inl (c, L, .inl g))) : aI h a = g := by simp [aI, e]
theorem aJ_of {h : hM} {a L : Nat} {c : ClassId} {g : Nat → Int64} (e : h a = some (.inl (c, L, .inr (.inl g)))) : aJ h a = g := by simp [aJ, e]
theorem iMulK {x y : Int32} (k : Int) (hk : y.toInt = k) (h1 : -2147483648 ≤ x.toInt * k) (h2 : x.toInt * k < 2147483648) : (x * y).toInt = x.toInt * k := by
  subst hk
  exact i_mul h1 h2
theorem iMulL {x y : Int32} (k : Int) (hk : x.toInt = k) (h1 : -2147483648 ≤ k * y.toInt) (h2 : k * y.toInt < 2147483648) : (x * y).toInt = k * y.toInt := by
  subst hk
  exact i_mul h1 h2
theorem i_and8 (x : Int32) : 0 ≤ (x &&& 255).toInt ∧ (x &&& 255).toInt ≤ 255 := by
  have h : (x &&& 255).toBitVec.toNat ≤ 255 := by
    rw [Int32.toBitVec_and, BitVec.toNat_and]
    exact Nat.and_le_right
  have h2 : (x &&& 255).toInt = ((x &&& 255).toBitVec.toNat : Int) := by
    rw [← Int32.toInt_toBitVec, BitVec.toInt_eq_toNat_of_lt (by omega)]
  omega
theorem upd_s (g : Nat → Int32) (k : Nat) (x : Int32) : upd g k x k = x := if_pos rfl
theorem upd_n {g : Nat → Int32} {j k : Nat} (x : Int32) (h : j ≠ k) : upd g k x j = g j := if_neg h
def gB (b : Nat → Int32) (sd p : Int32) : Int32 := b (2048 * sd + p).toNatClampNeg &&& 255
/-! the reference's tree -/
def prM (g : Nat → Int32) : pF := fun a => if a = 0 then none else some (g a).toInt.toNat
def lvM (it : Nat → Int32) (m : Nat) : Nat → Prop := fun a => a < m ∧ it a = 1
def alB (it : Nat → Int32) : Nat → Bool := fun k => decide (it k = 1)
def treeM (it pa : Nat → Int32) (m : Nat) : Prop := Tr (prM pa) (lvM it m) ∧ (∀ a, lvM it m a → a ≠ 0 → 0 ≤ (pa a).toInt) ∧ cntP (alB it) m ≤ 30 ∧ (0 < m → it 0 = 1)
theorem clN {x : Int32} : x.toNatClampNeg = x.toInt.toNat := rfl
theorem treeM_add {it pa : Nat → Int32} {m d : Nat} {dI : Int32} (hT : treeM it pa m) (hd : lvM it m d) (hc : cntP (alB it) m < 30) (hdI : dI.toInt = d) : treeM (upd it m 1) (upd pa m dI) (m + 1) := by
  obtain ⟨h1, h2, h3, h4⟩ := hT
  have hm : 0 < m := Nat.lt_of_le_of_lt (Nat.zero_le d) hd.1
  have hlv : ∀ a, lvM (upd it m 1) (m + 1) a ↔ (lvM it m a ∨ a = m) := fun a => by
    unfold lvM upd
    constructor
    · rintro ⟨g1, g2⟩
      by_cases hm9 : a = m
      · exact Or.inr hm9
      · rw [if_neg hm9] at g2
        exact Or.inl ⟨by omega, g2⟩
    · rintro (⟨g1, g2⟩ | rfl)
      · exact ⟨by omega, by rw [if_neg (by omega)]; exact g2⟩
      · exact ⟨by omega, if_pos rfl⟩
  refine ⟨Tr_add (x := m) (P := d) h1 hd ?_ ?_ hlv, fun a ha h0 => ?_, ?_, fun _ => by rw [upd_n _ (by omega)]; exact h4 hm⟩
  · unfold prM
    rw [if_neg (by omega), upd_s, hdI]
    rfl
  · intro a ha
    unfold prM
    rw [upd_n _ (by have := ha.1; omega)]
  · rcases (hlv a).mp ha with h9 | rfl
    · rw [upd_n _ (by have := h9.1; omega)]
      exact h2 a h9 h0
    · rw [upd_s, hdI]
      omega
  · rw [cntP, cnt_eq (Q := alB it) (fun i hi => by unfold alB; rw [upd_n _ (by omega)])]
    split <;> omega
theorem treeM_drop {it pa : Nat → Int32} {m k : Nat} (hT : treeM it pa m) (hk0 : k ≠ 0) (hno : ∀ a, lvM it m a → a ≠ 0 → (pa a).toInt ≠ k) : treeM (upd it k 0) pa m := by
  obtain ⟨h1, h2, h3, h4⟩ := hT
  have hlv : ∀ a, lvM (upd it k 0) m a ↔ (lvM it m a ∧ a ≠ k) := fun a => by
    unfold lvM upd
    by_cases hk : a = k
    · rw [if_pos hk]
      constructor
      · rintro ⟨-, g⟩
        exact absurd g (by decide)
      · rintro ⟨-, g⟩
        exact absurd hk g
    · rw [if_neg hk]
      exact ⟨fun g => ⟨g, hk⟩, fun g => g.1⟩
  refine ⟨Tr_drop (x := k) h1 (fun a ha => ?_) (fun a _ => rfl) hlv, fun a ha => h2 a ((hlv a).mp ha).1, Nat.le_trans (cnt_mono (fun i _ hi => ?_)) h3, fun hm => by rw [upd_n _ (Ne.symm hk0)]; exact h4 hm⟩
  · unfold prM
    by_cases h0 : a = 0
    · rw [if_pos h0]
      simp
    · rw [if_neg h0]
      intro z
      have := hno a ha h0
      have h9 := h2 a ha h0
      have := Option.some.inj z
      omega
  · unfold alB at hi ⊢
    by_cases hk : i = k
    · rw [hk, upd_s] at hi
      exact absurd hi (by decide)
    · rw [upd_n _ hk] at hi
      exact hi
theorem treeM_move {it pa : Nat → Int32} {m k d kP : Nat} {dI : Int32} (hT : treeM it pa m) (hd : lvM it m d) (hk : k ≠ 0) (hdI : dI.toInt = d) (hN : ChN (prM pa) k kP d) : treeM it (upd pa k dI) m := by
  obtain ⟨h1, h2, h3, h4⟩ := hT
  refine ⟨Tr_move (x := k) (P := d) h1 hd hN ?_ ?_, fun a ha h0 => ?_, h3, h4⟩
  · unfold prM
    rw [if_neg hk, upd_s, hdI]
    rfl
  · intro a ha
    unfold prM
    rw [upd_n _ ha]
  · by_cases h9 : a = k
    · rw [h9, upd_s, hdI]
      omega
    · rw [upd_n _ h9]
      exact h2 a ha h0
theorem treeM_0 {it pa : Nat → Int32} : treeM it pa 0 := ⟨fun a ha => absurd ha.1 (Nat.not_lt_zero a), fun a ha => absurd ha.1 (Nat.not_lt_zero a), Nat.zero_le _, fun h => absurd h (Nat.lt_irrefl 0)⟩
theorem treeM_rank {it pa : Nat → Int32} {m : Nat} (hm : m ≤ 30) (h : ∀ a, a < m → it a = 1 ∧ (a ≠ 0 → 0 ≤ (pa a).toInt ∧ (pa a).toInt < a)) : treeM it pa m := by
  refine ⟨Tr_rank (fun a => a) (fun a ha p hp => ?_), fun a ha h0 => ((h a ha.1).2 h0).1, Nat.le_trans (cnt_le _ _) hm, fun h0 => (h 0 h0).1⟩
  unfold prM at hp
  split at hp
  · cases hp
  · rename_i h0
    have := (h a ha.1).2 h0
    have hp := Option.some.inj hp
    have := ha.1
    exact ⟨⟨by omega, (h p (by omega)).1⟩, by omega⟩
/-- on the way up: at a node that is there, its chain so long -/
def dpQ (pr : pF) (Lv : Nat → Prop) (k : Nat) (q : Int32) : Prop := 0 ≤ q.toInt ∧ Lv q.toInt.toNat ∧ ∃ j, k = j + 1 ∧ Ch pr j q.toInt.toNat
theorem dpQ_0 {it pa : Nat → Int32} {m : Nat} {q : Int32} (hT : treeM it pa m) (h0 : 0 ≤ q.toInt) (hl : lvM it m q.toInt.toNat) : ∃ k, dpQ (prM pa) (lvM it m) k q := by
  obtain ⟨j, hj⟩ := (hT.1 _ hl).1
  exact ⟨j + 1, h0, hl, j, rfl, hj⟩
theorem dpQ_next {it pa : Nat → Int32} {m k : Nat} {q v : Int32} (hT : treeM it pa m) (hd : dpQ (prM pa) (lvM it m) k q) (h0 : 0 < q.toInt) (hv : v = pa q.toNatClampNeg) : ∃ k', k' < k ∧ dpQ (prM pa) (lvM it m) k' v ∧ prM pa q.toInt.toNat = some v.toInt.toNat := by
  obtain ⟨-, hl, j, rfl, hj⟩ := hd
  have hne : q.toInt.toNat ≠ 0 := by omega
  have hp : prM pa q.toInt.toNat = some v.toInt.toNat := by
    unfold prM
    rw [if_neg hne, hv]
    rfl
  have h2 := hT.2.1 _ hl hne
  cases j with
  | zero =>
    rw [Ch, hp] at hj
    cases hj
  | succ j =>
    obtain ⟨p, g1, g2⟩ := hj
    rw [hp] at g1
    obtain rfl := Option.some.inj g1
    exact ⟨j + 1, by omega, ⟨by rw [hv]; exact h2, (hT.1 _ hl).2 _ hp, j, rfl, g2⟩, hp⟩
theorem dpQ_lt {pr : pF} {it : Nat → Int32} {m k : Nat} {q : Int32} (hd : dpQ pr (lvM it m) k q) : q.toInt.toNat < m := hd.2.1.1
theorem fr_dn {g : Nat → Int32} {f i i' v a : Int32} {n : Nat} (hf : 0 ≤ f.toInt) (hi : 0 < i.toInt) (hi' : i'.toInt = i.toInt - 1) (hv : v.toInt = f.toInt + i.toInt - 1) (ha : a = g v.toNatClampNeg) (h0 : a = 0) (hZ : ∀ j : Nat, i.toInt ≤ j → j < n → g (f.toInt.toNat + j) = 0) : ∀ j : Nat, i'.toInt ≤ j → j < n → g (f.toInt.toNat + j) = 0 := fun j h1 h2 => by
  by_cases hj : i.toInt ≤ j
  · exact hZ j hj h2
  · rw [← h0, ha, clN, show v.toInt.toNat = f.toInt.toNat + j by omega]
/-- files: how long, and where when they are written -/
def exM (it di sz iw ex : Nat → Int32) (m n : Nat) : Prop := ∀ k, k < m → it k = 1 → di k = 0 → 0 ≤ (sz k).toInt ∧ (sz k).toInt ≤ 409600 ∧ (iw k = 1 → 0 < (sz k).toInt → 0 ≤ (ex k).toInt ∧ (ex k).toInt * 2048 + (sz k).toInt ≤ 2048 * n)
theorem cnt_step {it : Nat → Int32} {i j : Int32} {v a c c' : Int32} (h0 : 0 ≤ i.toInt) (hj : j.toInt = i.toInt + 1) (ha : a = it i.toNatClampNeg) (hz : zb a) (hc : c.toInt = cntP (alB it) i.toInt.toNat) (hc' : c'.toInt = c.toInt + (if a = 0 then 0 else 1)) : c'.toInt = cntP (alB it) j.toInt.toNat := by
  rw [show j.toInt.toNat = i.toInt.toNat + 1 by omega, cntP, hc', hc]
  rw [clN] at ha
  unfold alB
  rw [← ha]
  rcases hz with rfl | rfl
  · rw [if_pos rfl, if_neg (by decide)]
    omega
  · rw [if_neg (by decide), if_pos (by decide)]
    omega

set_option maxHeartbeats 4000000 in
set_option maxRecDepth 100000 in
theorem m_in (l : Launch) (D : va_G) (t : Nat → ClassId) (G : hG) (ak av : Nat → Nat) (h : hM) (τ : tM) (n : Nat) (v9 : Int32) (lo9 : Int32) (hi9 : Int32) (hn : n ≤ 200) (hT : TI τ t n h) : Met l y_Mo_in (.code y_Mo_in b_Mo_in 3 (some .boolean) :: lw_g) { frames := 0, cells := 0, slots := 0, locals := 0 } (hP (kE D t G ak av) D vwCl G h [.int v9, .int lo9, .int hi9]) (hQi D vwCl G (fun r h' => zb r ∧ ((r = 0 ∧ (v9.toInt < lo9.toInt ∨ hi9.toInt < v9.toInt)) ∨ (r = 1 ∧ lo9.toInt ≤ v9.toInt ∧ v9.toInt ≤ hi9.toInt)) ∧ h = h')) 0 0 nof := by
  refine Met.ofW (cc := b_Mo_in) (maxL := 3) (ret := (some .boolean)) (by decide) rfl ?_
  intro p e s m args below meth c s₁ Bd hml hv
  obtain ⟨ha, hE, hH⟩ := hv
  have hx := Bd.exec
  have hb := Bd.bytes
  have hr := Bd.returns
  have hts : ∀ w ∈ lw_g, w.before args s = true := fun w hw => atoms_spec (ws := (.code y_Mo_in b_Mo_in 3 (some .boolean) :: lw_g)) Bd.pre w (List.mem_cons_of_mem _ hw)
  have hown : s.vm.findClass R_Mo = some m.cls := findClass_of_methodNamed Bd.named
  have hlocks := Bd.notSynchronized
  have hK := hE.1
  have hH0 := hH
  have hLo : hLc nof [] := hLc_nil
  have hz : s.heap.size ≤ s.heap.size := Nat.le_refl _
  have hl := lv_entry [.int v9, .int lo9, .int hi9] (n := 3) (Nat.le_of_ble_eq_true rfl)
  rw [show entryFrame m args 3 = F0 m 0 ((lg_sl [.int v9, .int lo9, .int hi9] ++ List.replicate (3 - (lg_sl [.int v9, .int lo9, .int hi9]).length) Slot.unset).toArray) [] from (by rw [ha]; exact lg_entry_eq m [.int v9, .int lo9, .int hi9] 3)]
  generalize (lg_sl [.int v9, .int lo9, .int hi9] ++ List.replicate (3 - (lg_sl [.int v9, .int lo9, .int hi9]).length) Slot.unset).toArray = ls at hl ⊢
  have hl : lv_has ls 3 [(0, .int v9), (1, .int lo9), (2, .int hi9)] := hl
  refine lv_iload_n hx hb d_Mo_in_0 rfl (lv_at hl 0 rfl) ?_
  refine lv_iload_n hx hb d_Mo_in_1 rfl (lv_at hl 1 rfl) ?_
  refine lv_icmp_lt (tgt := 14) hx hb d_Mo_in_2 (by decide) (fun hc_1 => ?_) (fun hc_1 => ?_)
  · skip
    have ic_2 : v9.toInt < lo9.toInt := iLt hc_1
    have iu_3 : lo9.toInt < 2147483648 := iUp _
    refine lv_iconst (v := 0) hx hb d_Mo_in_14 (by decide) ?_
    exact W.zret (v := 0) hx hb hr (by decide) (fun t9 ht hW => ⟨0, h, rfl, ⟨zb0, Or.inl ⟨rfl, by omega⟩, rfl⟩, by rw [ht]; exact hH, by rw [ht]; exact hz⟩) hLo d_Mo_in_15
  · skip
    have ic_4 : lo9.toInt ≤ v9.toInt := iNl hc_1
    refine lv_iload_n hx hb d_Mo_in_5 rfl (lv_at hl 0 rfl) ?_
    refine lv_iload_n hx hb d_Mo_in_6 rfl (lv_at hl 2 rfl) ?_
    refine lv_icmp_gt (tgt := 14) hx hb d_Mo_in_7 (by decide) (fun hc_5 => ?_) (fun hc_5 => ?_)
    · skip
      have ic_6 : hi9.toInt < v9.toInt := iLt hc_5
      have iu_7 : v9.toInt < 2147483648 := iUp _
      refine lv_iconst (v := 0) hx hb d_Mo_in_14 (by decide) ?_
      exact W.zret (v := 0) hx hb hr (by decide) (fun t9 ht hW => ⟨0, h, rfl, ⟨zb0, Or.inl ⟨rfl, by omega⟩, rfl⟩, by rw [ht]; exact hH, by rw [ht]; exact hz⟩) hLo d_Mo_in_15
    · skip
      have ic_8 : v9.toInt ≤ hi9.toInt := iNl hc_5
      refine lv_iconst (v := 1) hx hb d_Mo_in_10 (by decide) ?_
      refine lv_goto (tgt := 15) hx hb d_Mo_in_11 (by decide) ?_
      exact W.zret (v := 1) hx hb hr (by decide) (fun t9 ht hW => ⟨1, h, rfl, ⟨zb1, Or.inr ⟨rfl, by omega, by omega⟩, rfl⟩, by rw [ht]; exact hH, by rw [ht]; exact hz⟩) hLo d_Mo_in_15

set_option maxHeartbeats 4000000 in
set_option maxRecDepth 100000 in
theorem m_letter (l : Launch) (D : va_G) (t : Nat → ClassId) (G : hG) (ak av : Nat → Nat) (h : hM) (τ : tM) (n : Nat) (c9 : Int32) (hn : n ≤ 200) (hT : TI τ t n h) : Met l y_Mo_isLetter (.code y_Mo_isLetter b_Mo_isLetter 1 (some .boolean) :: lw_g) { frames := 0, cells := 0, slots := 0, locals := 0 } (hP (kE D t G ak av) D vwCl G h [.int c9]) (hQi D vwCl G (fun r h' => zb r ∧ h = h')) 0 0 nof := by
  refine Met.ofW (cc := b_Mo_isLetter) (maxL := 1) (ret := (some .boolean)) (by decide) rfl ?_
  intro p e s m args below meth c s₁ Bd hml hv
  obtain ⟨ha, hE, hH⟩ := hv
  have hx := Bd.exec
  have hb := Bd.bytes
  have hr := Bd.returns
  have hts : ∀ w ∈ lw_g, w.before args s = true := fun w hw => atoms_spec (ws := (.code y_Mo_isLetter b_Mo_isLetter 1 (some .boolean) :: lw_g)) Bd.pre w (List.mem_cons_of_mem _ hw)
  have hown : s.vm.findClass R_Mo = some m.cls := findClass_of_methodNamed Bd.named
  have hlocks := Bd.notSynchronized
  have hK := hE.1
  have hH0 := hH
  have hLo : hLc nof [] := hLc_nil
  have hz : s.heap.size ≤ s.heap.size := Nat.le_refl _
  have hl := lv_entry [.int c9] (n := 1) (Nat.le_of_ble_eq_true rfl)
  rw [show entryFrame m args 1 = F0 m 0 ((lg_sl [.int c9] ++ List.replicate (1 - (lg_sl [.int c9]).length) Slot.unset).toArray) [] from (by rw [ha]; exact lg_entry_eq m [.int c9] 1)]
  generalize (lg_sl [.int c9] ++ List.replicate (1 - (lg_sl [.int c9]).length) Slot.unset).toArray = ls at hl ⊢
  have hl : lv_has ls 1 [(0, .int c9)] := hl
  refine lv_iload_n hx hb d_Mo_isLetter_0 rfl (lv_at hl 0 rfl) ?_
  refine lv_bipush (v := 65) hx hb d_Mo_isLetter_1 (by decide) ?_
  refine lv_icmp_lt (tgt := 12) hx hb d_Mo_isLetter_3 (by decide) (fun hc_1 => ?_) (fun hc_1 => ?_)
  · skip
    have ic_2 : c9.toInt < 65 := iLt hc_1
    refine lv_iload_n hx hb d_Mo_isLetter_12 rfl (lv_at hl 0 rfl) ?_
    refine lv_bipush (v := 48) hx hb d_Mo_isLetter_13 (by decide) ?_
    refine lv_icmp_lt (tgt := 24) hx hb d_Mo_isLetter_15 (by decide) (fun hc_3 => ?_) (fun hc_3 => ?_)
    · skip
      have ic_4 : c9.toInt < 48 := iLt hc_3
      refine lv_iload_n hx hb d_Mo_isLetter_24 rfl (lv_at hl 0 rfl) ?_
      refine lv_bipush (v := 95) hx hb d_Mo_isLetter_25 (by decide) ?_
      refine lv_icmp_ne (tgt := 34) hx hb d_Mo_isLetter_27 (by decide) (fun hc_5 => ?_) (fun hc_5 => ?_)
      · skip
        refine lv_iconst (v := 0) hx hb d_Mo_isLetter_34 (by decide) ?_
        exact W.zret (v := 0) hx hb hr (by decide) (fun t9 ht hW => ⟨0, h, rfl, ⟨zb0, rfl⟩, by rw [ht]; exact hH, by rw [ht]; exact hz⟩) hLo d_Mo_isLetter_35
      · skip
        have ic_6 : c9.toInt = 95 := congrArg Int32.toInt hc_5
        refine lv_iconst (v := 1) hx hb d_Mo_isLetter_30 (by decide) ?_
        refine lv_goto (tgt := 35) hx hb d_Mo_isLetter_31 (by decide) ?_
        exact W.zret (v := 1) hx hb hr (by decide) (fun t9 ht hW => ⟨1, h, rfl, ⟨zb1, rfl⟩, by rw [ht]; exact hH, by rw [ht]; exact hz⟩) hLo d_Mo_isLetter_35
    · skip
      have ic_7 : 48 ≤ c9.toInt := iNl hc_3
      refine lv_iload_n hx hb d_Mo_isLetter_18 rfl (lv_at hl 0 rfl) ?_
      refine lv_bipush (v := 57) hx hb d_Mo_isLetter_19 (by decide) ?_
      refine lv_icmp_le (tgt := 30) hx hb d_Mo_isLetter_21 (by decide) (fun hc_8 => ?_) (fun hc_8 => ?_)
      · skip
        have ic_9 : c9.toInt ≤ 57 := iLe hc_8
        refine lv_iconst (v := 1) hx hb d_Mo_isLetter_30 (by decide) ?_
        refine lv_goto (tgt := 35) hx hb d_Mo_isLetter_31 (by decide) ?_
        exact W.zret (v := 1) hx hb hr (by decide) (fun t9 ht hW => ⟨1, h, rfl, ⟨zb1, rfl⟩, by rw [ht]; exact hH, by rw [ht]; exact hz⟩) hLo d_Mo_isLetter_35
      · skip
        have ic_10 : 57 < c9.toInt := iNe hc_8
        have iu_11 : c9.toInt < 2147483648 := iUp _
        refine lv_iload_n hx hb d_Mo_isLetter_24 rfl (lv_at hl 0 rfl) ?_
        refine lv_bipush (v := 95) hx hb d_Mo_isLetter_25 (by decide) ?_
        refine lv_icmp_ne (tgt := 34) hx hb d_Mo_isLetter_27 (by decide) (fun hc_12 => ?_) (fun hc_12 => ?_)
        · skip
          refine lv_iconst (v := 0) hx hb d_Mo_isLetter_34 (by decide) ?_
          exact W.zret (v := 0) hx hb hr (by decide) (fun t9 ht hW => ⟨0, h, rfl, ⟨zb0, rfl⟩, by rw [ht]; exact hH, by rw [ht]; exact hz⟩) hLo d_Mo_isLetter_35
        · skip
          have ic_13 : c9.toInt = 95 := congrArg Int32.toInt hc_12
          refine lv_iconst (v := 1) hx hb d_Mo_isLetter_30 (by decide) ?_
          refine lv_goto (tgt := 35) hx hb d_Mo_isLetter_31 (by decide) ?_
          exact W.zret (v := 1) hx hb hr (by decide) (fun t9 ht hW => ⟨1, h, rfl, ⟨zb1, rfl⟩, by rw [ht]; exact hH, by rw [ht]; exact hz⟩) hLo d_Mo_isLetter_35
  · skip
    have ic_14 : 65 ≤ c9.toInt := iNl hc_1
    refine lv_iload_n hx hb d_Mo_isLetter_6 rfl (lv_at hl 0 rfl) ?_
    refine lv_bipush (v := 90) hx hb d_Mo_isLetter_7 (by decide) ?_
    refine lv_icmp_le (tgt := 30) hx hb d_Mo_isLetter_9 (by decide) (fun hc_15 => ?_) (fun hc_15 => ?_)
    · skip
      have ic_16 : c9.toInt ≤ 90 := iLe hc_15
      refine lv_iconst (v := 1) hx hb d_Mo_isLetter_30 (by decide) ?_
      refine lv_goto (tgt := 35) hx hb d_Mo_isLetter_31 (by decide) ?_
      exact W.zret (v := 1) hx hb hr (by decide) (fun t9 ht hW => ⟨1, h, rfl, ⟨zb1, rfl⟩, by rw [ht]; exact hH, by rw [ht]; exact hz⟩) hLo d_Mo_isLetter_35
    · skip
      have ic_17 : 90 < c9.toInt := iNe hc_15
      have iu_18 : c9.toInt < 2147483648 := iUp _
      refine lv_iload_n hx hb d_Mo_isLetter_12 rfl (lv_at hl 0 rfl) ?_
      refine lv_bipush (v := 48) hx hb d_Mo_isLetter_13 (by decide) ?_
      refine lv_icmp_lt (tgt := 24) hx hb d_Mo_isLetter_15 (by decide) (fun hc_19 => ?_) (fun hc_19 => ?_)
      · skip
        have ic_20 : c9.toInt < 48 := iLt hc_19
        refine lv_iload_n hx hb d_Mo_isLetter_24 rfl (lv_at hl 0 rfl) ?_
        refine lv_bipush (v := 95) hx hb d_Mo_isLetter_25 (by decide) ?_
        refine lv_icmp_ne (tgt := 34) hx hb d_Mo_isLetter_27 (by decide) (fun hc_21 => ?_) (fun hc_21 => ?_)
        · skip
          refine lv_iconst (v := 0) hx hb d_Mo_isLetter_34 (by decide) ?_
          exact W.zret (v := 0) hx hb hr (by decide) (fun t9 ht hW => ⟨0, h, rfl, ⟨zb0, rfl⟩, by rw [ht]; exact hH, by rw [ht]; exact hz⟩) hLo d_Mo_isLetter_35
        · skip
          have ic_22 : c9.toInt = 95 := congrArg Int32.toInt hc_21
          refine lv_iconst (v := 1) hx hb d_Mo_isLetter_30 (by decide) ?_
          refine lv_goto (tgt := 35) hx hb d_Mo_isLetter_31 (by decide) ?_
          exact W.zret (v := 1) hx hb hr (by decide) (fun t9 ht hW => ⟨1, h, rfl, ⟨zb1, rfl⟩, by rw [ht]; exact hH, by rw [ht]; exact hz⟩) hLo d_Mo_isLetter_35
      · skip
        have ic_23 : 48 ≤ c9.toInt := iNl hc_19
        refine lv_iload_n hx hb d_Mo_isLetter_18 rfl (lv_at hl 0 rfl) ?_
        refine lv_bipush (v := 57) hx hb d_Mo_isLetter_19 (by decide) ?_
        refine lv_icmp_le (tgt := 30) hx hb d_Mo_isLetter_21 (by decide) (fun hc_24 => ?_) (fun hc_24 => ?_)
        · skip
          have ic_25 : c9.toInt ≤ 57 := iLe hc_24
          refine lv_iconst (v := 1) hx hb d_Mo_isLetter_30 (by decide) ?_
          refine lv_goto (tgt := 35) hx hb d_Mo_isLetter_31 (by decide) ?_
          exact W.zret (v := 1) hx hb hr (by decide) (fun t9 ht hW => ⟨1, h, rfl, ⟨zb1, rfl⟩, by rw [ht]; exact hH, by rw [ht]; exact hz⟩) hLo d_Mo_isLetter_35
        · skip
          have ic_26 : 57 < c9.toInt := iNe hc_24
          have iu_27 : c9.toInt < 2147483648 := iUp _
          refine lv_iload_n hx hb d_Mo_isLetter_24 rfl (lv_at hl 0 rfl) ?_
          refine lv_bipush (v := 95) hx hb d_Mo_isLetter_25 (by decide) ?_
          refine lv_icmp_ne (tgt := 34) hx hb d_Mo_isLetter_27 (by decide) (fun hc_28 => ?_) (fun hc_28 => ?_)
          · skip
            refine lv_iconst (v := 0) hx hb d_Mo_isLetter_34 (by decide) ?_
            exact W.zret (v := 0) hx hb hr (by decide) (fun t9 ht hW => ⟨0, h, rfl, ⟨zb0, rfl⟩, by rw [ht]; exact hH, by rw [ht]; exact hz⟩) hLo d_Mo_isLetter_35
          · skip
            have ic_29 : c9.toInt = 95 := congrArg Int32.toInt hc_28
            refine lv_iconst (v := 1) hx hb d_Mo_isLetter_30 (by decide) ?_
            refine lv_goto (tgt := 35) hx hb d_Mo_isLetter_31 (by decide) ?_
            exact W.zret (v := 1) hx hb hr (by decide) (fun t9 ht hW => ⟨1, h, rfl, ⟨zb1, rfl⟩, by rw [ht]; exact hH, by rw [ht]; exact hz⟩) hLo d_Mo_isLetter_35

set_option maxHeartbeats 4000000 in
set_option maxRecDepth 100000 in
theorem m_told (l : Launch) (D : va_G) (t : Nat → ClassId) (G : hG) (ak av : Nat → Nat) (h : hM) (τ : tM) (n : Nat) (w9 : Int64) (hn : n ≤ 200) (hT : TI τ t n h) : Met l y_Mo_told (.code y_Mo_told b_Mo_told 6 (some .long) :: lw_g) { frames := 1, cells := 0, slots := 0, locals := 20 } (hP (kE D t G ak av) D vwCl G h [.long w9]) (hQl D vwCl G (fun r h' => h = h')) 0 0 nof := by
  refine Met.ofW (cc := b_Mo_told) (maxL := 6) (ret := (some .long)) (by decide) rfl ?_
  intro p e s m args below meth c s₁ Bd hml hv
  obtain ⟨ha, hE, hH⟩ := hv
  have hx := Bd.exec
  have hb := Bd.bytes
  have hr := Bd.returns
  have hts : ∀ w ∈ lw_g, w.before args s = true := fun w hw => atoms_spec (ws := (.code y_Mo_told b_Mo_told 6 (some .long) :: lw_g)) Bd.pre w (List.mem_cons_of_mem _ hw)
  have hown : s.vm.findClass R_Mo = some m.cls := findClass_of_methodNamed Bd.named
  have hlocks := Bd.notSynchronized
  have hK := hE.1
  have hH0 := hH
  have hLo : hLc nof [] := hLc_nil
  have hz : s.heap.size ≤ s.heap.size := Nat.le_refl _
  have hl := lv_entry [.long w9] (n := 6) (Nat.le_of_ble_eq_true rfl)
  rw [show entryFrame m args 6 = F0 m 0 ((lg_sl [.long w9] ++ List.replicate (6 - (lg_sl [.long w9]).length) Slot.unset).toArray) [] from (by rw [ha]; exact lg_entry_eq m [.long w9] 6)]
  generalize (lg_sl [.long w9] ++ List.replicate (6 - (lg_sl [.long w9]).length) Slot.unset).toArray = ls at hl ⊢
  have hl : lv_has ls 6 [(0, .long w9)] := hl
  refine lv_lconst (v := 0) hx hb d_Mo_told_0 (by decide) ?_
  refine lv_lstore_n (lv' := [(2, .long 0), (0, .long w9)]) hx hb d_Mo_told_1 rfl hl (by decide) rfl (fun ls hl => ?_)
  refine lv_bipush (v := 7) hx hb d_Mo_told_2 (by decide) ?_
  refine lv_istore (lv' := [(4, .int 7), (2, .long 0), (0, .long w9)]) hx hb d_Mo_told_4 hl (by decide) rfl (fun ls hl => ?_)
  refine hm_loop (fun k6 ls H locs hh6 => ∃ (nm : Int64) (sh : Int32), k6 = mD sh ∧ lv_has ls 6 [(0, .long w9), (2, .long nm), (4, .int sh)] ∧ hm D vwCl G hh6 H ∧ s.heap.size ≤ H.size ∧ hLc nof locs ∧ (h = hh6) ∧ (sh.toInt ≤ 7)) ?_ (hh := h) ⟨0, 7, rfl, (lv_sub hl [2, 1, 0] rfl), hH, hz, hLo, rfl, (by decide)⟩
  rintro k6 ls H locs hh6 ⟨nm, sh, hk6, hl, hH, hz, hLo, rfl, I_sh⟩ ih6
  refine lv_iload hx hb d_Mo_told_6 (lv_at hl 2 rfl) ?_
  refine lv_if_lt (tgt := 58) hx hb d_Mo_told_8 (by decide) (fun hc_1 => ?_) (fun hc_1 => ?_)
  · skip
    have ic_2 : sh.toInt < 0 := iLt hc_1
    refine lv_lload_n hx hb d_Mo_told_58 rfl (lv_at hl 1 rfl) ?_
    exact W.lret (v := nm) hx hb hr (fun t9 ht hW => ⟨nm, h, rfl, rfl, by rw [ht]; exact hH, by rw [ht]; exact hz⟩) hLo d_Mo_told_59
  · skip
    have ic_3 : 0 ≤ sh.toInt := iNl hc_1
    refine lv_lload_n hx hb d_Mo_told_11 rfl (lv_at hl 0 rfl) ?_
    refine lv_bipush (v := 8) hx hb d_Mo_told_12 (by decide) ?_
    refine lv_iload hx hb d_Mo_told_14 (lv_at hl 2 rfl) ?_
    refine lv_imul hx hb d_Mo_told_16 ?_
    refine lv_topi (fun v_4 e_5 => ?_)
    refine lv_lushr (v := (w9.toUInt64 >>> (v_4.toInt64.toUInt64 &&& Int64.toUInt64 63)).toInt64) hx hb d_Mo_told_17 rfl ?_
    refine lv_topl (fun v_6 e_7 => ?_)
    refine lv_ldc2 (v := 255) hx hb hown (hts _ mw_577) d_Mo_told_18 ?_
    refine lv_land hx hb d_Mo_told_21 ?_
    refine lv_topl (fun v_8 e_9 => ?_)
    refine lv_l2i (v := v_8.toInt32) hx hb d_Mo_told_22 rfl ?_
    refine lv_istore (lv' := [(5, .int v_8.toInt32), (0, .long w9), (2, .long nm), (4, .int sh)]) hx hb d_Mo_told_23 hl (by decide) rfl (fun ls hl => ?_)
    refine lv_iload hx hb d_Mo_told_25 (lv_at hl 0 rfl) ?_
    refine lv_if_ne (tgt := 33) hx hb d_Mo_told_27 (by decide) (fun hc_10 => ?_) (fun hc_10 => ?_)
    · skip
      refine lv_iload hx hb d_Mo_told_33 (lv_at hl 0 rfl) ?_
      refine hm_callPi (va_runS (As := [.int v_8.toInt32]) (rest := []) ⟨hx, hb, hml, hown, hts⟩ (m_letter l D t G ak av h τ n v_8.toInt32    hn hT    ) ⟨cw9B 1 hts mw_578 mw_580 mw_579 rfl rfl (by decide +kernel) ⟨Nat.le_of_ble_eq_true rfl, Nat.le_of_ble_eq_true rfl⟩, hts _ mw_581⟩ (hP_S kE_ok hE hH) rfl rfl hl.1 rfl (lv_room (Nat.le_of_ble_eq_true rfl)) d_Mo_told_35 ⟨Nat.le_of_ble_eq_true rfl, Nat.le_of_ble_eq_true rfl⟩) (fun r_11 h_12 H_13 hp_15  hH z_14 => ?_)
      have hz : s.heap.size ≤ H_13.size := Nat.le_trans hz z_14
      obtain ⟨c_16, rfl⟩ := hp_15
      refine lv_if_ne (tgt := 43) hx hb d_Mo_told_38 (by decide) (fun hc_18 => ?_) (fun hc_18 => ?_)
      · skip
        refine lv_lload_n hx hb d_Mo_told_43 rfl (lv_at hl 2 rfl) ?_
        refine lv_bipush (v := 8) hx hb d_Mo_told_44 (by decide) ?_
        refine lv_lshl (v := nm <<< ((8 : Int32).toInt64 &&& 63)) hx hb d_Mo_told_46 rfl ?_
        refine lv_topl (fun v_19 e_20 => ?_)
        refine lv_iload hx hb d_Mo_told_47 (lv_at hl 0 rfl) ?_
        refine lv_i2l (v := v_8.toInt32.toInt64) hx hb d_Mo_told_49 rfl ?_
        refine lv_lor hx hb d_Mo_told_50 ?_
        refine lv_topl (fun v_21 e_22 => ?_)
        refine lv_lstore_n (lv' := [(2, .long v_21), (5, .int v_8.toInt32), (0, .long w9), (4, .int sh)]) hx hb d_Mo_told_51 rfl hl (by decide) rfl (fun ls hl => ?_)
        obtain ⟨j_23, e_24⟩ : ∃ z : Int32, z = sh + (-1) := ⟨_, rfl⟩
        refine lv_iinc (v := j_23) (lv' := [(4, .int j_23), (2, .long v_21), (5, .int v_8.toInt32), (0, .long w9)]) hx hb d_Mo_told_52 hl (k := 3) rfl e_24.symm (by decide) rfl (fun ls hl => ?_)
        refine lv_goto (tgt := 6) hx hb d_Mo_told_55 (by decide) ?_
        have is_25 : j_23.toInt = sh.toInt + -1 := by rw [e_24]; exact iDecK 1 rfl (by decide) (by omega)
        exact ih6 (mD j_23) ls _ locs _ (by rw [hk6]; exact mD_lt (by omega)) ⟨v_21, j_23, rfl, (lv_sub hl [3, 1, 0] rfl), hH, hz, hLo, rfl, (by omega)⟩
      · skip
        have ic_26 : r_11.toInt = 0 := congrArg Int32.toInt hc_18
        refine lv_lconst (v := 0) hx hb d_Mo_told_41 (by decide) ?_
        exact W.lret (v := 0) hx hb hr (fun t9 ht hW => ⟨0, h, rfl, rfl, by rw [ht]; exact hH, by rw [ht]; exact hz⟩) hLo d_Mo_told_42
    · skip
      have ic_27 : v_8.toInt32.toInt = 0 := congrArg Int32.toInt hc_10
      refine lv_goto (tgt := 52) hx hb d_Mo_told_30 (by decide) ?_
      obtain ⟨j_28, e_29⟩ : ∃ z : Int32, z = sh + (-1) := ⟨_, rfl⟩
      refine lv_iinc (v := j_28) (lv' := [(4, .int j_28), (5, .int v_8.toInt32), (0, .long w9), (2, .long nm)]) hx hb d_Mo_told_52 hl (k := 3) rfl e_29.symm (by decide) rfl (fun ls hl => ?_)
      refine lv_goto (tgt := 6) hx hb d_Mo_told_55 (by decide) ?_
      have is_30 : j_28.toInt = sh.toInt + -1 := by rw [e_29]; exact iDecK 1 rfl (by decide) (by omega)
      exact ih6 (mD j_28) ls _ locs _ (by rw [hk6]; exact mD_lt (by omega)) ⟨nm, j_28, rfl, (lv_sub hl [2, 3, 0] rfl), hH, hz, hLo, rfl, (by omega)⟩

set_option maxHeartbeats 4000000 in
set_option maxRecDepth 100000 in
theorem m_content (l : Launch) (D : va_G) (t : Nat → ClassId) (G : hG) (ak av : Nat → Nat) (h : hM) (τ : tM) (n : Nat) (sz9 : Int32) (sd9 : Int32) (hn : n ≤ 200) (hT : TI τ t n h) : Met l y_Mo_isContent (.code y_Mo_isContent b_Mo_isContent 2 (some .boolean) :: lw_g) { frames := 1, cells := 0, slots := 0, locals := 22 } (hP (kE D t G ak av) D vwCl G h [.int sz9, .int sd9]) (hQi D vwCl G (fun r h' => zb r ∧ (r = 1 → 0 ≤ sz9.toInt ∧ sz9.toInt ≤ 6000) ∧ h = h')) 0 0 nof := by
  refine Met.ofW (cc := b_Mo_isContent) (maxL := 2) (ret := (some .boolean)) (by decide) rfl ?_
  intro p e s m args below meth c s₁ Bd hml hv
  obtain ⟨ha, hE, hH⟩ := hv
  have hx := Bd.exec
  have hb := Bd.bytes
  have hr := Bd.returns
  have hts : ∀ w ∈ lw_g, w.before args s = true := fun w hw => atoms_spec (ws := (.code y_Mo_isContent b_Mo_isContent 2 (some .boolean) :: lw_g)) Bd.pre w (List.mem_cons_of_mem _ hw)
  have hown : s.vm.findClass R_Mo = some m.cls := findClass_of_methodNamed Bd.named
  have hlocks := Bd.notSynchronized
  have hK := hE.1
  have hH0 := hH
  have hLo : hLc nof [] := hLc_nil
  have hz : s.heap.size ≤ s.heap.size := Nat.le_refl _
  have hl := lv_entry [.int sz9, .int sd9] (n := 2) (Nat.le_of_ble_eq_true rfl)
  rw [show entryFrame m args 2 = F0 m 0 ((lg_sl [.int sz9, .int sd9] ++ List.replicate (2 - (lg_sl [.int sz9, .int sd9]).length) Slot.unset).toArray) [] from (by rw [ha]; exact lg_entry_eq m [.int sz9, .int sd9] 2)]
  generalize (lg_sl [.int sz9, .int sd9] ++ List.replicate (2 - (lg_sl [.int sz9, .int sd9]).length) Slot.unset).toArray = ls at hl ⊢
  have hl : lv_has ls 2 [(0, .int sz9), (1, .int sd9)] := hl
  refine lv_iload_n hx hb d_Mo_isContent_0 rfl (lv_at hl 0 rfl) ?_
  refine lv_iconst (v := 0) hx hb d_Mo_isContent_1 (by decide) ?_
  refine lv_sipush (v := 6000) hx hb d_Mo_isContent_2 (by decide) ?_
  refine hm_callPi (va_runS (As := [.int sz9, .int 0, .int 6000]) (rest := []) ⟨hx, hb, hml, hown, hts⟩ (m_in l D t G ak av h τ n sz9 0 6000    hn hT    ) ⟨cw9B 3 hts mw_582 mw_583 mw_579 rfl rfl (by decide +kernel) ⟨Nat.le_of_ble_eq_true rfl, Nat.le_of_ble_eq_true rfl⟩, hts _ mw_584⟩ (hP_S kE_ok hE hH) rfl rfl hl.1 rfl (lv_room (Nat.le_of_ble_eq_true rfl)) d_Mo_isContent_5 ⟨Nat.le_of_ble_eq_true rfl, Nat.le_of_ble_eq_true rfl⟩) (fun r_1 h_2 H_3 hp_5  hH z_4 => ?_)
  have hz : s.heap.size ≤ H_3.size := Nat.le_trans hz z_4
  obtain ⟨c_6, xp_7, rfl⟩ := hp_5
  have il_8 : (0 : Int32).toInt = 0 := rfl
  have il_9 : (6000 : Int32).toInt = 6000 := rfl
  rcases xp_7 with ⟨rfl, ix9⟩ | ⟨rfl, ix9, iy9⟩
  · skip
    refine lv_if_eq (tgt := 26) hx hb d_Mo_isContent_8 (by decide) (fun hc_10 => ?_) (fun hc_10 => absurd hc_10 (by decide))
    refine lv_iconst (v := 0) hx hb d_Mo_isContent_26 (by decide) ?_
    exact W.zret (v := 0) hx hb hr (by decide) (fun t9 ht hW => ⟨0, h, rfl, ⟨zb0, (fun z => absurd z (by decide)), rfl⟩, by rw [ht]; exact hH, by rw [ht]; exact hz⟩) hLo d_Mo_isContent_27
  · skip
    refine lv_if_eq (tgt := 26) hx hb d_Mo_isContent_8 (by decide) (fun hc_11 => absurd hc_11 (by decide)) (fun hc_11 => ?_)
    refine lv_iload_n hx hb d_Mo_isContent_11 rfl (lv_at hl 1 rfl) ?_
    refine lv_iconst (v := 0) hx hb d_Mo_isContent_12 (by decide) ?_
    refine lv_sipush (v := 255) hx hb d_Mo_isContent_13 (by decide) ?_
    refine hm_callPi (va_runS (As := [.int sd9, .int 0, .int 255]) (rest := []) ⟨hx, hb, hml, hown, hts⟩ (m_in l D t G ak av h τ n sd9 0 255    hn hT    ) ⟨cw9B 3 hts mw_582 mw_583 mw_579 rfl rfl (by decide +kernel) ⟨Nat.le_of_ble_eq_true rfl, Nat.le_of_ble_eq_true rfl⟩, hts _ mw_584⟩ (hP_S kE_ok hE hH) rfl rfl hl.1 rfl (lv_room (Nat.le_of_ble_eq_true rfl)) d_Mo_isContent_16 ⟨Nat.le_of_ble_eq_true rfl, Nat.le_of_ble_eq_true rfl⟩) (fun r_12 h_13 H_14 hp_16  hH z_15 => ?_)
    have hz : s.heap.size ≤ H_14.size := Nat.le_trans hz z_15
    obtain ⟨c_17, xp_18, rfl⟩ := hp_16
    have il_19 : (0 : Int32).toInt = 0 := rfl
    have il_20 : (255 : Int32).toInt = 255 := rfl
    rcases xp_18 with ⟨rfl, ix9⟩ | ⟨rfl, ix9, iy9⟩
    · skip
      refine lv_if_eq (tgt := 26) hx hb d_Mo_isContent_19 (by decide) (fun hc_21 => ?_) (fun hc_21 => absurd hc_21 (by decide))
      refine lv_iconst (v := 0) hx hb d_Mo_isContent_26 (by decide) ?_
      exact W.zret (v := 0) hx hb hr (by decide) (fun t9 ht hW => ⟨0, h, rfl, ⟨zb0, (fun z => absurd z (by decide)), rfl⟩, by rw [ht]; exact hH, by rw [ht]; exact hz⟩) hLo d_Mo_isContent_27
    · skip
      refine lv_if_eq (tgt := 26) hx hb d_Mo_isContent_19 (by decide) (fun hc_22 => absurd hc_22 (by decide)) (fun hc_22 => ?_)
      refine lv_iconst (v := 1) hx hb d_Mo_isContent_22 (by decide) ?_
      refine lv_goto (tgt := 27) hx hb d_Mo_isContent_23 (by decide) ?_
      exact W.zret (v := 1) hx hb hr (by decide) (fun t9 ht hW => ⟨1, h, rfl, ⟨zb1, (fun _ => ⟨by omega, by omega⟩), rfl⟩, by rw [ht]; exact hH, by rw [ht]; exact hz⟩) hLo d_Mo_isContent_27

set_option maxHeartbeats 4000000 in
set_option maxRecDepth 100000 in
theorem m_even (l : Launch) (D : va_G) (t : Nat → ClassId) (G : hG) (ak av : Nat → Nat) (h : hM) (τ : tM) (n : Nat) (x9 : Int32) (hn : n ≤ 200) (hT : TI τ t n h) : Met l y_Mo_even (.code y_Mo_even b_Mo_even 1 (some .int) :: lw_g) { frames := 0, cells := 0, slots := 0, locals := 0 } (hP (kE D t G ak av) D vwCl G h [.int x9]) (hQi D vwCl G (fun r h' => (0 ≤ x9.toInt → x9.toInt ≤ 1000 → x9.toInt ≤ r.toInt ∧ r.toInt ≤ x9.toInt + 1 ∧ r.toInt % 2 = 0) ∧ h = h')) 0 0 nof := by
  refine Met.ofW (cc := b_Mo_even) (maxL := 1) (ret := (some .int)) (by decide) rfl ?_
  intro p e s m args below meth c s₁ Bd hml hv
  obtain ⟨ha, hE, hH⟩ := hv
  have hx := Bd.exec
  have hb := Bd.bytes
  have hr := Bd.returns
  have hts : ∀ w ∈ lw_g, w.before args s = true := fun w hw => atoms_spec (ws := (.code y_Mo_even b_Mo_even 1 (some .int) :: lw_g)) Bd.pre w (List.mem_cons_of_mem _ hw)
  have hown : s.vm.findClass R_Mo = some m.cls := findClass_of_methodNamed Bd.named
  have hlocks := Bd.notSynchronized
  have hK := hE.1
  have hH0 := hH
  have hLo : hLc nof [] := hLc_nil
  have hz : s.heap.size ≤ s.heap.size := Nat.le_refl _
  have hl := lv_entry [.int x9] (n := 1) (Nat.le_of_ble_eq_true rfl)
  rw [show entryFrame m args 1 = F0 m 0 ((lg_sl [.int x9] ++ List.replicate (1 - (lg_sl [.int x9]).length) Slot.unset).toArray) [] from (by rw [ha]; exact lg_entry_eq m [.int x9] 1)]
  generalize (lg_sl [.int x9] ++ List.replicate (1 - (lg_sl [.int x9]).length) Slot.unset).toArray = ls at hl ⊢
  have hl : lv_has ls 1 [(0, .int x9)] := hl
  refine lv_iload_n hx hb d_Mo_even_0 rfl (lv_at hl 0 rfl) ?_
  refine lv_iload_n hx hb d_Mo_even_1 rfl (lv_at hl 0 rfl) ?_
  refine lv_iconst (v := 2) hx hb d_Mo_even_2 (by decide) ?_
  refine lv_irem hx hb d_Mo_even_3 (by decide) ?_
  refine lv_topi (fun v_1 e_2 => ?_)
  have id_3 : 0 ≤ x9.toInt → v_1.toInt = x9.toInt % 2 := fun h9 => by rw [e_2]; exact i_mod (d := 2) (by decide) h9
  refine lv_iadd hx hb d_Mo_even_4 ?_
  refine lv_topi (fun v_4 e_5 => ?_)
  have hev : 0 ≤ x9.toInt → x9.toInt ≤ 1000 → x9.toInt ≤ v_4.toInt ∧ v_4.toInt ≤ x9.toInt + 1 ∧ v_4.toInt % 2 = 0 := fun h1 h2 => by
    have hq := id_3 h1
    have hq2 : v_4.toInt = x9.toInt + v_1.toInt := by rw [e_5]; exact iAdd (by omega) (by omega)
    omega
  exact W.iret (v := v_4) hx hb hr (fun t9 ht hW => ⟨v_4, h, rfl, ⟨hev, rfl⟩, by rw [ht]; exact hH, by rw [ht]; exact hz⟩) hLo d_Mo_even_5

set_option maxHeartbeats 4000000 in
set_option maxRecDepth 100000 in
theorem m_get (l : Launch) (D : va_G) (t : Nat → ClassId) (G : hG) (ak av : Nat → Nat) (h : hM) (τ : tM) (n : Nat) (m9 : Nat) (p9 : Int32) (A : Nat → Nat) (th sd lo le wr ma nu di pl se wg op : Int32) (hn : n ≤ 200) (hT : TI τ t n h) (T_m9 : τ m9 = (20, 0)) (F_m9 : h m9 = some (.inr (9, mf A n th sd lo le wr ma nu di pl se wg op))) (hA : ∀ i, i < 28 → τ (A i) = (30, i)) (hmk : mOk sd lo ma se op) (hp0 : 0 ≤ p9.toInt) (hp1 : p9.toInt < 409600) : Met l y_Mo_get (.code y_Mo_get b_Mo_get 2 (some .int) :: lw_g) { frames := 0, cells := 0, slots := 0, locals := 0 } (hP (kE D t G ak av) D vwCl G h [.ref m9, .int p9]) (hQi D vwCl G (fun r h' => ((0 ≤ r.toInt ∧ r.toInt ≤ 255) ∧ r = gB (aI h (A 0)) sd p9) ∧ h = h')) 0 0 nof := by
  refine Met.ofW (cc := b_Mo_get) (maxL := 2) (ret := (some .int)) (by decide) rfl ?_
  intro p e s m args below meth c s₁ Bd hml hv
  obtain ⟨ha, hE, hH⟩ := hv
  have hx := Bd.exec
  have hb := Bd.bytes
  have hr := Bd.returns
  have hts : ∀ w ∈ lw_g, w.before args s = true := fun w hw => atoms_spec (ws := (.code y_Mo_get b_Mo_get 2 (some .int) :: lw_g)) Bd.pre w (List.mem_cons_of_mem _ hw)
  have hown : s.vm.findClass R_Mo = some m.cls := findClass_of_methodNamed Bd.named
  have hlocks := Bd.notSynchronized
  have hK := hE.1
  have hH0 := hH
  have hLo : hLc nof [] := hLc_nil
  have hz : s.heap.size ≤ s.heap.size := Nat.le_refl _
  have hl := lv_entry [.ref m9, .int p9] (n := 2) (Nat.le_of_ble_eq_true rfl)
  rw [show entryFrame m args 2 = F0 m 0 ((lg_sl [.ref m9, .int p9] ++ List.replicate (2 - (lg_sl [.ref m9, .int p9]).length) Slot.unset).toArray) [] from (by rw [ha]; exact lg_entry_eq m [.ref m9, .int p9] 2)]
  generalize (lg_sl [.ref m9, .int p9] ++ List.replicate (2 - (lg_sl [.ref m9, .int p9]).length) Slot.unset).toArray = ls at hl ⊢
  have hl : lv_has ls 2 [(0, .ref m9), (1, .int p9)] := hl
  obtain ⟨hsd, hlo, hma, hse, hop⟩ := id hmk
  have inI : (nI n).toInt = n := nI_toInt (by omega)
  refine lv_aload_n hx hb d_Mo_get_0 rfl (lv_at hl 0 rfl) ?_
  refine hm_get (ci := 9) (v := .ref (A 0)) (C := R_Mo) (T := F_Mo) (N := 41) hx hb hts ig_Mo hown hK hH F_m9 rfl 3 (by decide) (hts _ mw_585) (fun _ h9 => h9) rfl d_Mo_get_1 ?_
  refine lv_sipush (v := 2048) hx hb d_Mo_get_4 (by decide) ?_
  refine lv_aload_n hx hb d_Mo_get_7 rfl (lv_at hl 0 rfl) ?_
  refine hm_get (ci := 9) (v := .int sd) (C := R_Mo) (T := F_Mo) (N := 41) hx hb hts ig_Mo hown hK hH F_m9 rfl 2 (by decide) (hts _ mw_586) (fun _ h9 => h9) rfl d_Mo_get_8 ?_
  refine lv_imul hx hb d_Mo_get_11 ?_
  refine lv_topi (fun v_1 e_2 => ?_)
  refine lv_iload_n hx hb d_Mo_get_12 rfl (lv_at hl 1 rfl) ?_
  refine lv_iadd hx hb d_Mo_get_13 ?_
  refine lv_topi (fun v_3 e_4 => ?_)
  obtain ⟨g_5, F_A0, c_6⟩ := TI_arB (L := 819200) hT (hA 0 (by decide)) rfl rfl
  have is_7 : v_1.toInt = 2048 * sd.toInt := by rw [e_2]; exact iMulL 2048 rfl (by omega) (by omega)
  have is_8 : v_3.toInt = v_1.toInt + p9.toInt := by rw [e_4]; exact iAdd (by omega) (by omega)
  refine hm_bald hx hb hK hH 0 F_A0 rfl (iIn (by omega) (by omega)) d_Mo_get_14 ?_
  refine lv_topi (fun v_9 e_10 => ?_)
  refine lv_sipush (v := 255) hx hb d_Mo_get_15 (by decide) ?_
  refine lv_iand hx hb d_Mo_get_18 ?_
  refine lv_topi (fun v_11 e_12 => ?_)
  have ia_13 : 0 ≤ v_11.toInt ∧ v_11.toInt ≤ 255 := by rw [e_12]; exact i_and8 _
  exact W.iret (v := v_11) hx hb hr (fun t9 ht hW => ⟨v_11, h, rfl, ⟨⟨⟨by omega, by omega⟩, by rw [aI_of F_A0, e_12, e_10, e_4, e_2]; rfl⟩, rfl⟩, by rw [ht]; exact hH, by rw [ht]; exact hz⟩) hLo d_Mo_get_19

set_option maxHeartbeats 4000000 in
set_option maxRecDepth 100000 in
theorem m_isW (l : Launch) (D : va_G) (t : Nat → ClassId) (G : hG) (ak av : Nat → Nat) (h : hM) (τ : tM) (n : Nat) (m9 : Nat) (s9 : Int32) (A : Nat → Nat) (th sd lo le wr ma nu di pl se wg op : Int32) (hn : n ≤ 200) (hT : TI τ t n h) (T_m9 : τ m9 = (20, 0)) (F_m9 : h m9 = some (.inr (9, mf A n th sd lo le wr ma nu di pl se wg op))) (hA : ∀ i, i < 28 → τ (A i) = (30, i)) (hmk : mOk sd lo ma se op) : Met l y_Mo_isWrittenSector (.code y_Mo_isWrittenSector b_Mo_isWrittenSector 2 (some .boolean) :: lw_g) { frames := 1, cells := 0, slots := 0, locals := 22 } (hP (kE D t G ak av) D vwCl G h [.ref m9, .int s9]) (hQi D vwCl G (fun r h' => zb r ∧ (r = 1 → 0 ≤ s9.toInt ∧ s9.toInt < n) ∧ h = h')) 0 0 nof := by
  refine Met.ofW (cc := b_Mo_isWrittenSector) (maxL := 2) (ret := (some .boolean)) (by decide) rfl ?_
  intro p e s m args below meth c s₁ Bd hml hv
  obtain ⟨ha, hE, hH⟩ := hv
  have hx := Bd.exec
  have hb := Bd.bytes
  have hr := Bd.returns
  have hts : ∀ w ∈ lw_g, w.before args s = true := fun w hw => atoms_spec (ws := (.code y_Mo_isWrittenSector b_Mo_isWrittenSector 2 (some .boolean) :: lw_g)) Bd.pre w (List.mem_cons_of_mem _ hw)
  have hown : s.vm.findClass R_Mo = some m.cls := findClass_of_methodNamed Bd.named
  have hlocks := Bd.notSynchronized
  have hK := hE.1
  have hH0 := hH
  have hLo : hLc nof [] := hLc_nil
  have hz : s.heap.size ≤ s.heap.size := Nat.le_refl _
  have hl := lv_entry [.ref m9, .int s9] (n := 2) (Nat.le_of_ble_eq_true rfl)
  rw [show entryFrame m args 2 = F0 m 0 ((lg_sl [.ref m9, .int s9] ++ List.replicate (2 - (lg_sl [.ref m9, .int s9]).length) Slot.unset).toArray) [] from (by rw [ha]; exact lg_entry_eq m [.ref m9, .int s9] 2)]
  generalize (lg_sl [.ref m9, .int s9] ++ List.replicate (2 - (lg_sl [.ref m9, .int s9]).length) Slot.unset).toArray = ls at hl ⊢
  have hl : lv_has ls 2 [(0, .ref m9), (1, .int s9)] := hl
  obtain ⟨hsd, hlo, hma, hse, hop⟩ := id hmk
  have inI : (nI n).toInt = n := nI_toInt (by omega)
  refine lv_iload_n hx hb d_Mo_isWrittenSector_0 rfl (lv_at hl 1 rfl) ?_
  refine lv_iconst (v := 0) hx hb d_Mo_isWrittenSector_1 (by decide) ?_
  refine lv_aload_n hx hb d_Mo_isWrittenSector_2 rfl (lv_at hl 0 rfl) ?_
  refine hm_get (ci := 9) (v := .int (nI n)) (C := R_Mo) (T := F_Mo) (N := 41) hx hb hts ig_Mo hown hK hH F_m9 rfl 1 (by decide) (hts _ mw_587) (fun _ h9 => h9) rfl d_Mo_isWrittenSector_3 ?_
  refine lv_iconst (v := 1) hx hb d_Mo_isWrittenSector_6 (by decide) ?_
  refine lv_isub hx hb d_Mo_isWrittenSector_7 ?_
  refine lv_topi (fun v_1 e_2 => ?_)
  refine hm_callPi (va_runS (As := [.int s9, .int 0, .int v_1]) (rest := []) ⟨hx, hb, hml, hown, hts⟩ (m_in l D t G ak av h τ n s9 0 v_1    hn hT    ) ⟨cw9B 3 hts mw_582 mw_583 mw_579 rfl rfl (by decide +kernel) ⟨Nat.le_of_ble_eq_true rfl, Nat.le_of_ble_eq_true rfl⟩, hts _ mw_584⟩ (hP_S kE_ok hE hH) rfl rfl hl.1 rfl (lv_room (Nat.le_of_ble_eq_true rfl)) d_Mo_isWrittenSector_8 ⟨Nat.le_of_ble_eq_true rfl, Nat.le_of_ble_eq_true rfl⟩) (fun r_3 h_4 H_5 hp_7  hH z_6 => ?_)
  have hz : s.heap.size ≤ H_5.size := Nat.le_trans hz z_6
  obtain ⟨c_8, xp_9, rfl⟩ := hp_7
  have il_10 : (0 : Int32).toInt = 0 := rfl
  have is_11 : v_1.toInt = (nI n).toInt - 1 := by rw [e_2]; exact iDecS 1 rfl (by decide) (by omega)
  rcases xp_9 with ⟨rfl, ix9⟩ | ⟨rfl, ix9, iy9⟩
  · skip
    refine lv_if_eq (tgt := 33) hx hb d_Mo_isWrittenSector_11 (by decide) (fun hc_12 => ?_) (fun hc_12 => absurd hc_12 (by decide))
    refine lv_iconst (v := 0) hx hb d_Mo_isWrittenSector_33 (by decide) ?_
    exact W.zret (v := 0) hx hb hr (by decide) (fun t9 ht hW => ⟨0, h, rfl, ⟨zb0, (fun z => absurd z (by decide)), rfl⟩, by rw [ht]; exact hH, by rw [ht]; exact hz⟩) hLo d_Mo_isWrittenSector_34
  · skip
    refine lv_if_eq (tgt := 33) hx hb d_Mo_isWrittenSector_11 (by decide) (fun hc_13 => absurd hc_13 (by decide)) (fun hc_13 => ?_)
    refine lv_aload_n hx hb d_Mo_isWrittenSector_14 rfl (lv_at hl 0 rfl) ?_
    refine hm_get (ci := 9) (v := .ref (A 1)) (C := R_Mo) (T := F_Mo) (N := 41) hx hb hts ig_Mo hown hK hH F_m9 rfl 4 (by decide) (hts _ mw_588) (fun _ h9 => h9) rfl d_Mo_isWrittenSector_15 ?_
    refine lv_aload_n hx hb d_Mo_isWrittenSector_18 rfl (lv_at hl 0 rfl) ?_
    refine hm_get (ci := 9) (v := .int sd) (C := R_Mo) (T := F_Mo) (N := 41) hx hb hts ig_Mo hown hK hH F_m9 rfl 2 (by decide) (hts _ mw_586) (fun _ h9 => h9) rfl d_Mo_isWrittenSector_19 ?_
    refine lv_iload_n hx hb d_Mo_isWrittenSector_22 rfl (lv_at hl 1 rfl) ?_
    refine lv_iadd hx hb d_Mo_isWrittenSector_23 ?_
    refine lv_topi (fun v_14 e_15 => ?_)
    obtain ⟨g_16, F_A1, c_17⟩ := TI_arB (L := 400) hT (hA 1 (by decide)) rfl rfl
    have is_18 : v_14.toInt = sd.toInt + s9.toInt := by rw [e_15]; exact iAdd (by omega) (by omega)
    refine hm_bald hx hb hK hH 0 F_A1 rfl (iIn (by omega) (by omega)) d_Mo_isWrittenSector_24 ?_
    refine lv_topi (fun v_19 e_20 => ?_)
    refine lv_iconst (v := 1) hx hb d_Mo_isWrittenSector_25 (by decide) ?_
    refine lv_icmp_ne (tgt := 33) hx hb d_Mo_isWrittenSector_26 (by decide) (fun hc_21 => ?_) (fun hc_21 => ?_)
    · skip
      refine lv_iconst (v := 0) hx hb d_Mo_isWrittenSector_33 (by decide) ?_
      exact W.zret (v := 0) hx hb hr (by decide) (fun t9 ht hW => ⟨0, h, rfl, ⟨zb0, (fun z => absurd z (by decide)), rfl⟩, by rw [ht]; exact hH, by rw [ht]; exact hz⟩) hLo d_Mo_isWrittenSector_34
    · skip
      have ic_22 : v_19.toInt = 1 := congrArg Int32.toInt hc_21
      refine lv_iconst (v := 1) hx hb d_Mo_isWrittenSector_29 (by decide) ?_
      refine lv_goto (tgt := 34) hx hb d_Mo_isWrittenSector_30 (by decide) ?_
      exact W.zret (v := 1) hx hb hr (by decide) (fun t9 ht hW => ⟨1, h, rfl, ⟨zb1, (fun _ => ⟨by omega, by omega⟩), rfl⟩, by rw [ht]; exact hH, by rw [ht]; exact hz⟩) hLo d_Mo_isWrittenSector_34

set_option maxHeartbeats 4000000 in
set_option maxRecDepth 100000 in
theorem m_front (l : Launch) (D : va_G) (t : Nat → ClassId) (G : hG) (ak av : Nat → Nat) (h : hM) (τ : tM) (n : Nat) (m9 : Nat) (f9 : Int32) (A : Nat → Nat) (th sd lo le wr ma nu di pl se wg op : Int32) (hn : n ≤ 200) (hT : TI τ t n h) (T_m9 : τ m9 = (20, 0)) (F_m9 : h m9 = some (.inr (9, mf A n th sd lo le wr ma nu di pl se wg op))) (hA : ∀ i, i < 28 → τ (A i) = (30, i)) (hmk : mOk sd lo ma se op) (hf : f9.toInt = 0 ∨ f9.toInt = 200) : Met l y_Mo_frontOf (.code y_Mo_frontOf b_Mo_frontOf 3 (some .int) :: lw_g) { frames := 0, cells := 0, slots := 0, locals := 0 } (hP (kE D t G ak av) D vwCl G h [.ref m9, .int f9]) (hQi D vwCl G (fun r h' => (0 ≤ r.toInt ∧ r.toInt ≤ n ∧ ∀ j : Nat, r.toInt ≤ j → j < n → aI h (A 1) (f9.toInt.toNat + j) = 0) ∧ h = h')) 0 0 nof := by
  refine Met.ofW (cc := b_Mo_frontOf) (maxL := 3) (ret := (some .int)) (by decide) rfl ?_
  intro p e s m args below meth c s₁ Bd hml hv
  obtain ⟨ha, hE, hH⟩ := hv
  have hx := Bd.exec
  have hb := Bd.bytes
  have hr := Bd.returns
  have hts : ∀ w ∈ lw_g, w.before args s = true := fun w hw => atoms_spec (ws := (.code y_Mo_frontOf b_Mo_frontOf 3 (some .int) :: lw_g)) Bd.pre w (List.mem_cons_of_mem _ hw)
  have hown : s.vm.findClass R_Mo = some m.cls := findClass_of_methodNamed Bd.named
  have hlocks := Bd.notSynchronized
  have hK := hE.1
  have hH0 := hH
  have hLo : hLc nof [] := hLc_nil
  have hz : s.heap.size ≤ s.heap.size := Nat.le_refl _
  have hl := lv_entry [.ref m9, .int f9] (n := 3) (Nat.le_of_ble_eq_true rfl)
  rw [show entryFrame m args 3 = F0 m 0 ((lg_sl [.ref m9, .int f9] ++ List.replicate (3 - (lg_sl [.ref m9, .int f9]).length) Slot.unset).toArray) [] from (by rw [ha]; exact lg_entry_eq m [.ref m9, .int f9] 3)]
  generalize (lg_sl [.ref m9, .int f9] ++ List.replicate (3 - (lg_sl [.ref m9, .int f9]).length) Slot.unset).toArray = ls at hl ⊢
  have hl : lv_has ls 3 [(0, .ref m9), (1, .int f9)] := hl
  obtain ⟨hsd, hlo, hma, hse, hop⟩ := id hmk
  have inI : (nI n).toInt = n := nI_toInt (by omega)
  obtain ⟨g_1, F_A1, c_2⟩ := TI_arB (L := 400) hT (hA 1 (by decide)) rfl rfl
  have hf0 : 0 ≤ f9.toInt := by omega
  refine lv_aload_n hx hb d_Mo_frontOf_0 rfl (lv_at hl 0 rfl) ?_
  refine hm_get (ci := 9) (v := .int (nI n)) (C := R_Mo) (T := F_Mo) (N := 41) hx hb hts ig_Mo hown hK hH F_m9 rfl 1 (by decide) (hts _ mw_587) (fun _ h9 => h9) rfl d_Mo_frontOf_1 ?_
  refine lv_topi (fun v_3 e_4 => ?_)
  have is_5 : v_3.toInt = n := by rw [e_4]; exact inI
  refine lv_istore_n (lv' := [(2, .int v_3), (0, .ref m9), (1, .int f9)]) hx hb d_Mo_frontOf_4 rfl hl (by decide) rfl (fun ls hl => ?_)
  refine hm_loop (fun k5 ls H locs hh5 => ∃ (i9 : Int32), k5 = i9.toInt.toNat ∧ lv_has ls 3 [(0, .ref m9), (1, .int f9), (2, .int i9)] ∧ hm D vwCl G hh5 H ∧ s.heap.size ≤ H.size ∧ hLc nof locs ∧ (h = hh5) ∧ (0 ≤ i9.toInt ∧ i9.toInt ≤ n) ∧ (∀ j : Nat, i9.toInt ≤ j → j < n → g_1 (f9.toInt.toNat + j) = 0)) ?_ (hh := h) ⟨v_3, rfl, (lv_sub hl [1, 2, 0] rfl), hH, hz, hLo, rfl, ⟨by omega, by omega⟩, (fun j h1 h2 => absurd h1 (by omega))⟩
  rintro k5 ls H locs hh5 ⟨i9, hk5, hl, hH, hz, hLo, rfl, I_i9, hZ⟩ ih5
  refine lv_iload_n hx hb d_Mo_frontOf_5 rfl (lv_at hl 2 rfl) ?_
  refine lv_if_le (tgt := 28) hx hb d_Mo_frontOf_6 (by decide) (fun hc_6 => ?_) (fun hc_6 => ?_)
  · skip
    have ic_7 : i9.toInt ≤ 0 := iLe hc_6
    refine lv_iload_n hx hb d_Mo_frontOf_28 rfl (lv_at hl 2 rfl) ?_
    exact W.iret (v := i9) hx hb hr (fun t9 ht hW => ⟨i9, h, rfl, ⟨⟨by omega, by omega, by rw [aI_of F_A1]; exact hZ⟩, rfl⟩, by rw [ht]; exact hH, by rw [ht]; exact hz⟩) hLo d_Mo_frontOf_29
  · skip
    have ic_8 : 0 < i9.toInt := iNe hc_6
    have iu_9 : i9.toInt < 2147483648 := iUp _
    refine lv_aload_n hx hb d_Mo_frontOf_9 rfl (lv_at hl 0 rfl) ?_
    refine hm_get (ci := 9) (v := .ref (A 1)) (C := R_Mo) (T := F_Mo) (N := 41) hx hb hts ig_Mo hown hK hH F_m9 rfl 4 (by decide) (hts _ mw_588) (fun _ h9 => h9) rfl d_Mo_frontOf_10 ?_
    refine lv_iload_n hx hb d_Mo_frontOf_13 rfl (lv_at hl 1 rfl) ?_
    refine lv_iload_n hx hb d_Mo_frontOf_14 rfl (lv_at hl 2 rfl) ?_
    refine lv_iadd hx hb d_Mo_frontOf_15 ?_
    refine lv_topi (fun v_10 e_11 => ?_)
    refine lv_iconst (v := 1) hx hb d_Mo_frontOf_16 (by decide) ?_
    refine lv_isub hx hb d_Mo_frontOf_17 ?_
    refine lv_topi (fun v_12 e_13 => ?_)
    have is_14 : v_10.toInt = f9.toInt + i9.toInt := by rw [e_11]; exact iAdd (by omega) (by omega)
    have is_15 : v_12.toInt = v_10.toInt - 1 := by rw [e_13]; exact iDecS 1 rfl (by decide) (by omega)
    refine hm_bald hx hb hK hH 0 F_A1 rfl (iIn (by omega) (by omega)) d_Mo_frontOf_18 ?_
    refine lv_topi (fun v_16 e_17 => ?_)
    refine lv_if_ne (tgt := 28) hx hb d_Mo_frontOf_19 (by decide) (fun hc_18 => ?_) (fun hc_18 => ?_)
    · skip
      refine lv_iload_n hx hb d_Mo_frontOf_28 rfl (lv_at hl 2 rfl) ?_
      exact W.iret (v := i9) hx hb hr (fun t9 ht hW => ⟨i9, h, rfl, ⟨⟨by omega, by omega, by rw [aI_of F_A1]; exact hZ⟩, rfl⟩, by rw [ht]; exact hH, by rw [ht]; exact hz⟩) hLo d_Mo_frontOf_29
    · skip
      have ic_19 : v_16.toInt = 0 := congrArg Int32.toInt hc_18
      obtain ⟨j_20, e_21⟩ : ∃ z : Int32, z = i9 + (-1) := ⟨_, rfl⟩
      refine lv_iinc (v := j_20) (lv' := [(2, .int j_20), (0, .ref m9), (1, .int f9)]) hx hb d_Mo_frontOf_22 hl (k := 2) rfl e_21.symm (by decide) rfl (fun ls hl => ?_)
      refine lv_goto (tgt := 5) hx hb d_Mo_frontOf_25 (by decide) ?_
      have is_22 : j_20.toInt = i9.toInt + -1 := by rw [e_21]; exact iDecK 1 rfl (by decide) (by omega)
      exact ih5 (j_20.toInt.toNat) ls _ locs _ (by rw [hk5]; omega) ⟨j_20, rfl, (lv_sub hl [1, 2, 0] rfl), hH, hz, hLo, rfl, ⟨by omega, by omega⟩, (fr_dn (v := v_12) hf0 (by omega) (by omega) (by omega) e_17 hc_18 hZ)⟩
