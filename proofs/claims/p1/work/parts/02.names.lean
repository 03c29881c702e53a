/-! my names: classes, fields, methods -/
def R_Di : String := "WriteOnceDisc"
def R_Me : String := "WriteOnceDisc$Medium"
def R_No : String := "WriteOnceDisc$Node"
def R_Ns : String := "WriteOnceDisc$Nodes"
def R_Pg : String := "WriteOnceDisc$Page"
def R_Po : String := "WriteOnceDisc$Power"
def R_Re : String := "WriteOnceDisc$Reader"
def R_Se : String := "WriteOnceDisc$Sector"
def R_Wr : String := "WriteOnceDisc$Writer"
def R_Mo : String := "WriteOnceDiscModel"
def R_La : String := "WriteOnceDiscLaw"
def R_St : String := "java/lang/String"
def R_Ar : String := "java/util/Arrays"
def R_S1 : String := "java/lang/StringLatin1"
def F_Me : u_T := fun k => match k with
  | 0 => ("WriteOnceDisc$Medium", "sectors", "[LWriteOnceDisc$Sector;", true)
  | _ => ("WriteOnceDisc$Medium", "front", "I", false)
def t_Me : Nat → FieldType := fun k => match k with
  | 0 => (.array (.object "WriteOnceDisc$Sector"))
  | _ => .int
theorem nm_Me : ∀ a, a < 2 → ∀ b, b < 2 → a ≠ b → (F_Me a).2.1 ≠ (F_Me b).2.1 := by decide +kernel
theorem tk_Me : ∀ k, k < 2 → parseFieldDescriptor (F_Me k).2.2.1 = some (t_Me k) := by decide +kernel
def F_No : u_T := fun k => match k with
  | 0 => ("WriteOnceDisc$Node", "number", "I", false)
  | 1 => ("WriteOnceDisc$Node", "parent", "LWriteOnceDisc$Node;", false)
  | 2 => ("WriteOnceDisc$Node", "isDirectory", "Z", false)
  | 3 => ("WriteOnceDisc$Node", "word", "J", false)
  | 4 => ("WriteOnceDisc$Node", "letters", "I", false)
  | 5 => ("WriteOnceDisc$Node", "size", "I", false)
  | 6 => ("WriteOnceDisc$Node", "seed", "I", false)
  | 7 => ("WriteOnceDisc$Node", "isWritten", "Z", false)
  | 8 => ("WriteOnceDisc$Node", "extent", "I", false)
  | 9 => ("WriteOnceDisc$Node", "sector", "I", false)
  | _ => ("WriteOnceDisc$Node", "numberInPathTable", "I", false)
def t_No : Nat → FieldType := fun k => match k with
  | 0 => .int
  | 1 => (.object "WriteOnceDisc$Node")
  | 2 => .boolean
  | 3 => .long
  | 4 => .int
  | 5 => .int
  | 6 => .int
  | 7 => .boolean
  | 8 => .int
  | 9 => .int
  | _ => .int
theorem nm_No : ∀ a, a < 11 → ∀ b, b < 11 → a ≠ b → (F_No a).2.1 ≠ (F_No b).2.1 := by decide +kernel
theorem tk_No : ∀ k, k < 11 → parseFieldDescriptor (F_No k).2.2.1 = some (t_No k) := by decide +kernel
def F_Ns : u_T := fun k => match k with
  | 0 => ("WriteOnceDisc$Nodes", "slots", "[LWriteOnceDisc$Node;", true)
  | 1 => ("WriteOnceDisc$Nodes", "order", "[LWriteOnceDisc$Node;", true)
  | 2 => ("WriteOnceDisc$Nodes", "count", "I", false)
  | _ => ("WriteOnceDisc$Nodes", "nextNumber", "I", false)
def t_Ns : Nat → FieldType := fun k => match k with
  | 0 => (.array (.object "WriteOnceDisc$Node"))
  | 1 => (.array (.object "WriteOnceDisc$Node"))
  | 2 => .int
  | _ => .int
theorem nm_Ns : ∀ a, a < 4 → ∀ b, b < 4 → a ≠ b → (F_Ns a).2.1 ≠ (F_Ns b).2.1 := by decide +kernel
theorem tk_Ns : ∀ k, k < 4 → parseFieldDescriptor (F_Ns k).2.2.1 = some (t_Ns k) := by decide +kernel
def F_Pg : u_T := fun k => match k with
  | _ => ("WriteOnceDisc$Page", "bytes", "[B", true)
def t_Pg : Nat → FieldType := fun k => match k with
  | _ => (.array .byte)
theorem nm_Pg : ∀ a, a < 1 → ∀ b, b < 1 → a ≠ b → (F_Pg a).2.1 ≠ (F_Pg b).2.1 := by decide +kernel
theorem tk_Pg : ∀ k, k < 1 → parseFieldDescriptor (F_Pg k).2.2.1 = some (t_Pg k) := by decide +kernel
def F_Po : u_T := fun k => match k with
  | 0 => ("WriteOnceDisc$Power", "left", "I", false)
  | 1 => ("WriteOnceDisc$Power", "isLost", "Z", false)
  | _ => ("WriteOnceDisc$Power", "spent", "I", false)
def t_Po : Nat → FieldType := fun k => match k with
  | 0 => .int
  | 1 => .boolean
  | _ => .int
theorem nm_Po : ∀ a, a < 3 → ∀ b, b < 3 → a ≠ b → (F_Po a).2.1 ≠ (F_Po b).2.1 := by decide +kernel
theorem tk_Po : ∀ k, k < 3 → parseFieldDescriptor (F_Po k).2.2.1 = some (t_Po k) := by decide +kernel
def F_Re : u_T := fun k => match k with
  | 0 => ("WriteOnceDisc$Reader", "table", "LWriteOnceDisc$Page;", true)
  | 1 => ("WriteOnceDisc$Reader", "told", "LWriteOnceDisc$Node;", true)
  | 2 => ("WriteOnceDisc$Reader", "medium", "LWriteOnceDisc$Medium;", false)
  | 3 => ("WriteOnceDisc$Reader", "nodes", "LWriteOnceDisc$Nodes;", false)
  | _ => ("WriteOnceDisc$Reader", "wrongPlace", "I", false)
def t_Re : Nat → FieldType := fun k => match k with
  | 0 => (.object "WriteOnceDisc$Page")
  | 1 => (.object "WriteOnceDisc$Node")
  | 2 => (.object "WriteOnceDisc$Medium")
  | 3 => (.object "WriteOnceDisc$Nodes")
  | _ => .int
theorem nm_Re : ∀ a, a < 5 → ∀ b, b < 5 → a ≠ b → (F_Re a).2.1 ≠ (F_Re b).2.1 := by decide +kernel
theorem tk_Re : ∀ k, k < 5 → parseFieldDescriptor (F_Re k).2.2.1 = some (t_Re k) := by decide +kernel
def F_Se : u_T := fun k => match k with
  | 0 => ("WriteOnceDisc$Sector", "condition", "I", false)
  | 1 => ("WriteOnceDisc$Sector", "isDefective", "Z", false)
  | _ => ("WriteOnceDisc$Sector", "bytes", "[B", false)
def t_Se : Nat → FieldType := fun k => match k with
  | 0 => .int
  | 1 => .boolean
  | _ => (.array .byte)
theorem nm_Se : ∀ a, a < 3 → ∀ b, b < 3 → a ≠ b → (F_Se a).2.1 ≠ (F_Se b).2.1 := by decide +kernel
theorem tk_Se : ∀ k, k < 3 → parseFieldDescriptor (F_Se k).2.2.1 = some (t_Se k) := by decide +kernel
def F_Wr : u_T := fun k => match k with
  | 0 => ("WriteOnceDisc$Writer", "supply", "LWriteOnceDisc$Power;", true)
  | _ => ("WriteOnceDisc$Writer", "page", "LWriteOnceDisc$Page;", true)
def t_Wr : Nat → FieldType := fun k => match k with
  | 0 => (.object "WriteOnceDisc$Power")
  | _ => (.object "WriteOnceDisc$Page")
theorem nm_Wr : ∀ a, a < 2 → ∀ b, b < 2 → a ≠ b → (F_Wr a).2.1 ≠ (F_Wr b).2.1 := by decide +kernel
theorem tk_Wr : ∀ k, k < 2 → parseFieldDescriptor (F_Wr k).2.2.1 = some (t_Wr k) := by decide +kernel
def F_Di : u_T := fun k => match k with
  | 0 => ("WriteOnceDisc", "writer", "LWriteOnceDisc$Writer;", true)
  | 1 => ("WriteOnceDisc", "reader", "LWriteOnceDisc$Reader;", true)
  | 2 => ("WriteOnceDisc", "planned", "LWriteOnceDisc$Nodes;", true)
  | 3 => ("WriteOnceDisc", "medium", "LWriteOnceDisc$Medium;", false)
  | 4 => ("WriteOnceDisc", "spare", "LWriteOnceDisc$Medium;", false)
  | 5 => ("WriteOnceDisc", "lastNumber", "I", false)
  | 6 => ("WriteOnceDisc", "isOpen", "Z", false)
  | 7 => ("WriteOnceDisc", "opened", "LWriteOnceDisc$Nodes;", false)
  | _ => ("WriteOnceDisc", "scratch", "LWriteOnceDisc$Nodes;", false)
def t_Di : Nat → FieldType := fun k => match k with
  | 0 => (.object "WriteOnceDisc$Writer")
  | 1 => (.object "WriteOnceDisc$Reader")
  | 2 => (.object "WriteOnceDisc$Nodes")
  | 3 => (.object "WriteOnceDisc$Medium")
  | 4 => (.object "WriteOnceDisc$Medium")
  | 5 => .int
  | 6 => .boolean
  | 7 => (.object "WriteOnceDisc$Nodes")
  | _ => (.object "WriteOnceDisc$Nodes")
theorem nm_Di : ∀ a, a < 9 → ∀ b, b < 9 → a ≠ b → (F_Di a).2.1 ≠ (F_Di b).2.1 := by decide +kernel
theorem tk_Di : ∀ k, k < 9 → parseFieldDescriptor (F_Di k).2.2.1 = some (t_Di k) := by decide +kernel
def F_Mo : u_T := fun k => match k with
  | 0 => ("WriteOnceDiscModel", "thrown", "I", false)
  | 1 => ("WriteOnceDiscModel", "sectors", "I", true)
  | 2 => ("WriteOnceDiscModel", "side", "I", false)
  | 3 => ("WriteOnceDiscModel", "bytes", "[B", true)
  | 4 => ("WriteOnceDiscModel", "states", "[B", true)
  | 5 => ("WriteOnceDiscModel", "defective", "[Z", true)
  | 6 => ("WriteOnceDiscModel", "lost", "Z", false)
  | 7 => ("WriteOnceDiscModel", "left", "I", false)
  | 8 => ("WriteOnceDiscModel", "writes", "I", false)
  | 9 => ("WriteOnceDiscModel", "page", "[B", true)
  | 10 => ("WriteOnceDiscModel", "many", "I", false)
  | 11 => ("WriteOnceDiscModel", "isThere", "[Z", true)
  | 12 => ("WriteOnceDiscModel", "isDirectory", "[Z", true)
  | 13 => ("WriteOnceDiscModel", "parent", "[I", true)
  | 14 => ("WriteOnceDiscModel", "name", "[J", true)
  | 15 => ("WriteOnceDiscModel", "size", "[I", true)
  | 16 => ("WriteOnceDiscModel", "seed", "[I", true)
  | 17 => ("WriteOnceDiscModel", "isWritten", "[Z", true)
  | 18 => ("WriteOnceDiscModel", "extent", "[I", true)
  | 19 => ("WriteOnceDiscModel", "older", "[I", true)
  | 20 => ("WriteOnceDiscModel", "number", "I", false)
  | 21 => ("WriteOnceDiscModel", "plan", "[B", true)
  | 22 => ("WriteOnceDiscModel", "directories", "I", false)
  | 23 => ("WriteOnceDiscModel", "planned", "I", false)
  | 24 => ("WriteOnceDiscModel", "table", "[I", true)
  | 25 => ("WriteOnceDiscModel", "at", "[I", true)
  | 26 => ("WriteOnceDiscModel", "long0", "[I", true)
  | 27 => ("WriteOnceDiscModel", "seen", "I", false)
  | 28 => ("WriteOnceDiscModel", "wrong", "I", false)
  | 29 => ("WriteOnceDiscModel", "sAbove", "[I", true)
  | 30 => ("WriteOnceDiscModel", "sDirectory", "[Z", true)
  | 31 => ("WriteOnceDiscModel", "sSize", "[I", true)
  | 32 => ("WriteOnceDiscModel", "sSector", "[I", true)
  | 33 => ("WriteOnceDiscModel", "sName", "[J", true)
  | 34 => ("WriteOnceDiscModel", "sDepth", "[I", true)
  | 35 => ("WriteOnceDiscModel", "opened", "I", false)
  | 36 => ("WriteOnceDiscModel", "oAbove", "[I", true)
  | 37 => ("WriteOnceDiscModel", "oDirectory", "[Z", true)
  | 38 => ("WriteOnceDiscModel", "oSize", "[I", true)
  | 39 => ("WriteOnceDiscModel", "oSector", "[I", true)
  | _ => ("WriteOnceDiscModel", "oName", "[J", true)
def t_Mo : Nat → FieldType := fun k => match k with
  | 0 => .int
  | 1 => .int
  | 2 => .int
  | 3 => (.array .byte)
  | 4 => (.array .byte)
  | 5 => (.array .boolean)
  | 6 => .boolean
  | 7 => .int
  | 8 => .int
  | 9 => (.array .byte)
  | 10 => .int
  | 11 => (.array .boolean)
  | 12 => (.array .boolean)
  | 13 => (.array .int)
  | 14 => (.array .long)
  | 15 => (.array .int)
  | 16 => (.array .int)
  | 17 => (.array .boolean)
  | 18 => (.array .int)
  | 19 => (.array .int)
  | 20 => .int
  | 21 => (.array .byte)
  | 22 => .int
  | 23 => .int
  | 24 => (.array .int)
  | 25 => (.array .int)
  | 26 => (.array .int)
  | 27 => .int
  | 28 => .int
  | 29 => (.array .int)
  | 30 => (.array .boolean)
  | 31 => (.array .int)
  | 32 => (.array .int)
  | 33 => (.array .long)
  | 34 => (.array .int)
  | 35 => .int
  | 36 => (.array .int)
  | 37 => (.array .boolean)
  | 38 => (.array .int)
  | 39 => (.array .int)
  | _ => (.array .long)
theorem nm_Mo : ∀ a, a < 41 → ∀ b, b < 41 → a ≠ b → (F_Mo a).2.1 ≠ (F_Mo b).2.1 := by decide +kernel
theorem tk_Mo : ∀ k, k < 41 → parseFieldDescriptor (F_Mo k).2.2.1 = some (t_Mo k) := by decide +kernel
abbrev vwCl : List vw_C := [(R_Me, F_Me, 2), (R_No, F_No, 11), (R_Ns, F_Ns, 4), (R_Pg, F_Pg, 1), (R_Po, F_Po, 3), (R_Re, F_Re, 5), (R_Se, F_Se, 3), (R_Wr, F_Wr, 2), (R_Di, F_Di, 9), (R_Mo, F_Mo, 41)]
/-! my names: code and name of each method that is walked -/
abbrev b_Me_init : ByteArray := prog_2_method_1_code
def y_Me_init : MethodName := ⟨R_Me, "<init>", "(I)V"⟩
abbrev b_No_init : ByteArray := prog_3_method_1_code
def y_No_init : MethodName := ⟨R_No, "<init>", "()V"⟩
abbrev b_Ns_init : ByteArray := prog_4_method_1_code
def y_Ns_init : MethodName := ⟨R_Ns, "<init>", "()V"⟩
abbrev b_Pg_init : ByteArray := prog_5_method_1_code
def y_Pg_init : MethodName := ⟨R_Pg, "<init>", "(I)V"⟩
abbrev b_Pg_put : ByteArray := prog_5_method_3_code
def y_Pg_put : MethodName := ⟨R_Pg, "put", "(II)V"⟩
abbrev b_Pg_putBoth : ByteArray := prog_5_method_7_code
def y_Pg_putBoth : MethodName := ⟨R_Pg, "putBoth", "(III)V"⟩
abbrev b_Pg_putHigh : ByteArray := prog_5_method_6_code
def y_Pg_putHigh : MethodName := ⟨R_Pg, "putHigh", "(III)V"⟩
abbrev b_Pg_putLow : ByteArray := prog_5_method_5_code
def y_Pg_putLow : MethodName := ⟨R_Pg, "putLow", "(III)V"⟩
abbrev b_Po_init : ByteArray := prog_6_method_1_code
def y_Po_init : MethodName := ⟨R_Po, "<init>", "()V"⟩
abbrev b_Re_init : ByteArray := prog_7_method_1_code
def y_Re_init : MethodName := ⟨R_Re, "<init>", "()V"⟩
abbrev b_Se_init : ByteArray := prog_8_method_1_code
def y_Se_init : MethodName := ⟨R_Se, "<init>", "()V"⟩
abbrev b_Wr_init : ByteArray := prog_9_method_1_code
def y_Wr_init : MethodName := ⟨R_Wr, "<init>", "()V"⟩
