section
-- ===== PART A: goes FIRST, ahead of the names: the tables' words, and 'selects' of the private methods out of them =====
/-- a private method of a class that the tables say can be made, by its rows of tables_1 -/
def lw_okq (q : MethodName × Nat) : Prop := (q.1.cls ≠ "java/lang/invoke/MethodHandle" ∧ q.1.cls ≠ "java/lang/invoke/VarHandle") ∧ Cond.instantiable q.1.cls q.2 ∈ tables_1 ∧ Cond.privateMethod q.1 ∈ tables_1 ∧ Cond.instanceMethod q.1 ∈ tables_1
theorem lw_p0 : lw_okq (⟨"WriteOnceDisc", "added", "(LWriteOnceDisc$Node;ZJ)I"⟩, 9) := ⟨⟨by decide +kernel, by decide +kernel⟩, List.mem_of_getElem? (i := 23) (by decide +kernel), List.mem_of_getElem? (i := 297) (by decide +kernel), List.mem_of_getElem? (i := 298) (by decide +kernel)⟩
theorem lw_p1 : lw_okq (⟨"WriteOnceDisc$Writer", "writeFile", "(LWriteOnceDisc$Node;LWriteOnceDisc$Medium;LWriteOnceDisc$Medium;)I"⟩, 2) := ⟨⟨by decide +kernel, by decide +kernel⟩, List.mem_of_getElem? (i := 31) (by decide +kernel), List.mem_of_getElem? (i := 382) (by decide +kernel), List.mem_of_getElem? (i := 383) (by decide +kernel)⟩
theorem lw_p2 : lw_okq (⟨"WriteOnceDisc$Writer", "writeParts", "(LWriteOnceDisc$Node;ILWriteOnceDisc$Medium;LWriteOnceDisc$Medium;)I"⟩, 2) := ⟨⟨by decide +kernel, by decide +kernel⟩, List.mem_of_getElem? (i := 31) (by decide +kernel), List.mem_of_getElem? (i := 393) (by decide +kernel), List.mem_of_getElem? (i := 394) (by decide +kernel)⟩
theorem lw_p3 : lw_okq (⟨"WriteOnceDisc$Nodes", "listChildren", "(LWriteOnceDisc$Node;I)I"⟩, 4) := ⟨⟨by decide +kernel, by decide +kernel⟩, List.mem_of_getElem? (i := 171) (by decide +kernel), List.mem_of_getElem? (i := 457) (by decide +kernel), List.mem_of_getElem? (i := 458) (by decide +kernel)⟩
theorem lw_p4 : lw_okq (⟨"WriteOnceDisc$Writer", "placeDirectories", "(LWriteOnceDisc$Nodes;I)I"⟩, 2) := ⟨⟨by decide +kernel, by decide +kernel⟩, List.mem_of_getElem? (i := 31) (by decide +kernel), List.mem_of_getElem? (i := 522) (by decide +kernel), List.mem_of_getElem? (i := 523) (by decide +kernel)⟩
theorem lw_p5 : lw_okq (⟨"WriteOnceDisc$Writer", "writeHead", "(LWriteOnceDisc$Nodes;LWriteOnceDisc$Medium;I)I"⟩, 2) := ⟨⟨by decide +kernel, by decide +kernel⟩, List.mem_of_getElem? (i := 31) (by decide +kernel), List.mem_of_getElem? (i := 526) (by decide +kernel), List.mem_of_getElem? (i := 527) (by decide +kernel)⟩
theorem lw_p6 : lw_okq (⟨"WriteOnceDisc$Page", "putPathEntry", "(ILWriteOnceDisc$Node;Z)I"⟩, 1) := ⟨⟨by decide +kernel, by decide +kernel⟩, List.mem_of_getElem? (i := 56) (by decide +kernel), List.mem_of_getElem? (i := 534) (by decide +kernel), List.mem_of_getElem? (i := 535) (by decide +kernel)⟩
theorem lw_p7 : lw_okq (⟨"WriteOnceDisc$Page", "putIdentifier", "(ILWriteOnceDisc$Node;)V"⟩, 1) := ⟨⟨by decide +kernel, by decide +kernel⟩, List.mem_of_getElem? (i := 56) (by decide +kernel), List.mem_of_getElem? (i := 546) (by decide +kernel), List.mem_of_getElem? (i := 547) (by decide +kernel)⟩
theorem lw_p8 : lw_okq (⟨"WriteOnceDisc$Page", "putRecord", "(ILWriteOnceDisc$Node;I)I"⟩, 1) := ⟨⟨by decide +kernel, by decide +kernel⟩, List.mem_of_getElem? (i := 56) (by decide +kernel), List.mem_of_getElem? (i := 574) (by decide +kernel), List.mem_of_getElem? (i := 575) (by decide +kernel)⟩
theorem lw_p9 : lw_okq (⟨"WriteOnceDisc$Writer", "writeDirectories", "(LWriteOnceDisc$Nodes;LWriteOnceDisc$Medium;)I"⟩, 2) := ⟨⟨by decide +kernel, by decide +kernel⟩, List.mem_of_getElem? (i := 31) (by decide +kernel), List.mem_of_getElem? (i := 579) (by decide +kernel), List.mem_of_getElem? (i := 580) (by decide +kernel)⟩
theorem lw_p10 : lw_okq (⟨"WriteOnceDisc$Writer", "writeMark", "(LWriteOnceDisc$Medium;II)I"⟩, 2) := ⟨⟨by decide +kernel, by decide +kernel⟩, List.mem_of_getElem? (i := 31) (by decide +kernel), List.mem_of_getElem? (i := 587) (by decide +kernel), List.mem_of_getElem? (i := 588) (by decide +kernel)⟩
theorem lw_p11 : lw_okq (⟨"WriteOnceDisc$Reader", "hasHead", "(I)Z"⟩, 5) := ⟨⟨by decide +kernel, by decide +kernel⟩, List.mem_of_getElem? (i := 77) (by decide +kernel), List.mem_of_getElem? (i := 639) (by decide +kernel), List.mem_of_getElem? (i := 640) (by decide +kernel)⟩
theorem lw_p12 : lw_okq (⟨"WriteOnceDisc$Reader", "wrongAt", "(I)Z"⟩, 5) := ⟨⟨by decide +kernel, by decide +kernel⟩, List.mem_of_getElem? (i := 77) (by decide +kernel), List.mem_of_getElem? (i := 644) (by decide +kernel), List.mem_of_getElem? (i := 645) (by decide +kernel)⟩
theorem lw_p13 : lw_okq (⟨"WriteOnceDisc$Reader", "beginsAs", "(II)Z"⟩, 5) := ⟨⟨by decide +kernel, by decide +kernel⟩, List.mem_of_getElem? (i := 77) (by decide +kernel), List.mem_of_getElem? (i := 648) (by decide +kernel), List.mem_of_getElem? (i := 649) (by decide +kernel)⟩
theorem lw_p14 : lw_okq (⟨"WriteOnceDisc$Reader", "hasDescriptor", "(I)Z"⟩, 5) := ⟨⟨by decide +kernel, by decide +kernel⟩, List.mem_of_getElem? (i := 77) (by decide +kernel), List.mem_of_getElem? (i := 655) (by decide +kernel), List.mem_of_getElem? (i := 656) (by decide +kernel)⟩
theorem lw_p15 : lw_okq (⟨"WriteOnceDisc$Reader", "takesRecord", "(ILWriteOnceDisc$Node;)Z"⟩, 5) := ⟨⟨by decide +kernel, by decide +kernel⟩, List.mem_of_getElem? (i := 77) (by decide +kernel), List.mem_of_getElem? (i := 668) (by decide +kernel), List.mem_of_getElem? (i := 669) (by decide +kernel)⟩
def lw_privs_1 : List (MethodName × Nat) := [(⟨"WriteOnceDisc", "added", "(LWriteOnceDisc$Node;ZJ)I"⟩, 9), (⟨"WriteOnceDisc$Writer", "writeFile", "(LWriteOnceDisc$Node;LWriteOnceDisc$Medium;LWriteOnceDisc$Medium;)I"⟩, 2), (⟨"WriteOnceDisc$Writer", "writeParts", "(LWriteOnceDisc$Node;ILWriteOnceDisc$Medium;LWriteOnceDisc$Medium;)I"⟩, 2), (⟨"WriteOnceDisc$Nodes", "listChildren", "(LWriteOnceDisc$Node;I)I"⟩, 4), (⟨"WriteOnceDisc$Writer", "placeDirectories", "(LWriteOnceDisc$Nodes;I)I"⟩, 2), (⟨"WriteOnceDisc$Writer", "writeHead", "(LWriteOnceDisc$Nodes;LWriteOnceDisc$Medium;I)I"⟩, 2), (⟨"WriteOnceDisc$Page", "putPathEntry", "(ILWriteOnceDisc$Node;Z)I"⟩, 1), (⟨"WriteOnceDisc$Page", "putIdentifier", "(ILWriteOnceDisc$Node;)V"⟩, 1), (⟨"WriteOnceDisc$Page", "putRecord", "(ILWriteOnceDisc$Node;I)I"⟩, 1), (⟨"WriteOnceDisc$Writer", "writeDirectories", "(LWriteOnceDisc$Nodes;LWriteOnceDisc$Medium;)I"⟩, 2), (⟨"WriteOnceDisc$Writer", "writeMark", "(LWriteOnceDisc$Medium;II)I"⟩, 2), (⟨"WriteOnceDisc$Reader", "hasHead", "(I)Z"⟩, 5), (⟨"WriteOnceDisc$Reader", "wrongAt", "(I)Z"⟩, 5), (⟨"WriteOnceDisc$Reader", "beginsAs", "(II)Z"⟩, 5), (⟨"WriteOnceDisc$Reader", "hasDescriptor", "(I)Z"⟩, 5), (⟨"WriteOnceDisc$Reader", "takesRecord", "(ILWriteOnceDisc$Node;)Z"⟩, 5)]
theorem lw_r1 : ∀ q ∈ lw_privs_1, lw_okq q := List.forall_mem_cons.mpr ⟨lw_p0, List.forall_mem_cons.mpr ⟨lw_p1, List.forall_mem_cons.mpr ⟨lw_p2, List.forall_mem_cons.mpr ⟨lw_p3, List.forall_mem_cons.mpr ⟨lw_p4, List.forall_mem_cons.mpr ⟨lw_p5, List.forall_mem_cons.mpr ⟨lw_p6, List.forall_mem_cons.mpr ⟨lw_p7, List.forall_mem_cons.mpr ⟨lw_p8, List.forall_mem_cons.mpr ⟨lw_p9, List.forall_mem_cons.mpr ⟨lw_p10, List.forall_mem_cons.mpr ⟨lw_p11, List.forall_mem_cons.mpr ⟨lw_p12, List.forall_mem_cons.mpr ⟨lw_p13, List.forall_mem_cons.mpr ⟨lw_p14, List.forall_mem_cons.mpr ⟨lw_p15, fun _ h => absurd h List.not_mem_nil⟩⟩⟩⟩⟩⟩⟩⟩⟩⟩⟩⟩⟩⟩⟩⟩
theorem lw_p16 : lw_okq (⟨"WriteOnceDisc$Reader", "hasSectors", "(LWriteOnceDisc$Node;)Z"⟩, 5) := ⟨⟨by decide +kernel, by decide +kernel⟩, List.mem_of_getElem? (i := 77) (by decide +kernel), List.mem_of_getElem? (i := 673) (by decide +kernel), List.mem_of_getElem? (i := 674) (by decide +kernel)⟩
theorem lw_p17 : lw_okq (⟨"WriteOnceDisc$Reader", "isSpecial", "(II)Z"⟩, 5) := ⟨⟨by decide +kernel, by decide +kernel⟩, List.mem_of_getElem? (i := 77) (by decide +kernel), List.mem_of_getElem? (i := 679) (by decide +kernel), List.mem_of_getElem? (i := 680) (by decide +kernel)⟩
theorem lw_p18 : lw_okq (⟨"WriteOnceDisc$Reader", "hasDirectory", "(LWriteOnceDisc$Node;)Z"⟩, 5) := ⟨⟨by decide +kernel, by decide +kernel⟩, List.mem_of_getElem? (i := 77) (by decide +kernel), List.mem_of_getElem? (i := 683) (by decide +kernel), List.mem_of_getElem? (i := 684) (by decide +kernel)⟩
theorem lw_p19 : lw_okq (⟨"WriteOnceDisc$Reader", "saysDirectory", "(IILWriteOnceDisc$Node;)Z"⟩, 5) := ⟨⟨by decide +kernel, by decide +kernel⟩, List.mem_of_getElem? (i := 77) (by decide +kernel), List.mem_of_getElem? (i := 687) (by decide +kernel), List.mem_of_getElem? (i := 688) (by decide +kernel)⟩
theorem lw_p20 : lw_okq (⟨"WriteOnceDisc$Reader", "takesNode", "(ILWriteOnceDisc$Node;)Z"⟩, 5) := ⟨⟨by decide +kernel, by decide +kernel⟩, List.mem_of_getElem? (i := 77) (by decide +kernel), List.mem_of_getElem? (i := 691) (by decide +kernel), List.mem_of_getElem? (i := 692) (by decide +kernel)⟩
theorem lw_p21 : lw_okq (⟨"WriteOnceDisc$Reader", "takesIdentifier", "(ILWriteOnceDisc$Node;)Z"⟩, 5) := ⟨⟨by decide +kernel, by decide +kernel⟩, List.mem_of_getElem? (i := 77) (by decide +kernel), List.mem_of_getElem? (i := 697) (by decide +kernel), List.mem_of_getElem? (i := 698) (by decide +kernel)⟩
theorem lw_p22 : lw_okq (⟨"WriteOnceDisc$Reader", "isToldOnce", "(LWriteOnceDisc$Node;)Z"⟩, 5) := ⟨⟨by decide +kernel, by decide +kernel⟩, List.mem_of_getElem? (i := 77) (by decide +kernel), List.mem_of_getElem? (i := 707) (by decide +kernel), List.mem_of_getElem? (i := 708) (by decide +kernel)⟩
theorem lw_p23 : lw_okq (⟨"WriteOnceDisc$Reader", "hasPathTables", "(I)Z"⟩, 5) := ⟨⟨by decide +kernel, by decide +kernel⟩, List.mem_of_getElem? (i := 77) (by decide +kernel), List.mem_of_getElem? (i := 716) (by decide +kernel), List.mem_of_getElem? (i := 717) (by decide +kernel)⟩
theorem lw_p24 : lw_okq (⟨"WriteOnceDisc$Reader", "hasTable", "(II)Z"⟩, 5) := ⟨⟨by decide +kernel, by decide +kernel⟩, List.mem_of_getElem? (i := 77) (by decide +kernel), List.mem_of_getElem? (i := 721) (by decide +kernel), List.mem_of_getElem? (i := 722) (by decide +kernel)⟩
theorem lw_p25 : lw_okq (⟨"java/lang/Throwable", "fillInStackTrace", "(I)Ljava/lang/Throwable;"⟩, 6) := ⟨⟨by decide +kernel, by decide +kernel⟩, List.mem_of_getElem? (i := 844) (by decide +kernel), List.mem_of_getElem? (i := 842) (by decide +kernel), List.mem_of_getElem? (i := 843) (by decide +kernel)⟩
theorem lw_p26 : lw_okq (⟨"WriteOnceDisc", "openedNode", "(I)LWriteOnceDisc$Node;"⟩, 9) := ⟨⟨by decide +kernel, by decide +kernel⟩, List.mem_of_getElem? (i := 23) (by decide +kernel), List.mem_of_getElem? (i := 876) (by decide +kernel), List.mem_of_getElem? (i := 877) (by decide +kernel)⟩
theorem lw_p27 : lw_okq (⟨"WriteOnceDiscModel", "rootAlone", "()V"⟩, 41) := ⟨⟨by decide +kernel, by decide +kernel⟩, List.mem_of_getElem? (i := 906) (by decide +kernel), List.mem_of_getElem? (i := 914) (by decide +kernel), List.mem_of_getElem? (i := 915) (by decide +kernel)⟩
theorem lw_p28 : lw_okq (⟨"WriteOnceDiscModel", "add", "(IJZIIZ)I"⟩, 41) := ⟨⟨by decide +kernel, by decide +kernel⟩, List.mem_of_getElem? (i := 906) (by decide +kernel), List.mem_of_getElem? (i := 1063) (by decide +kernel), List.mem_of_getElem? (i := 1064) (by decide +kernel)⟩
theorem lw_p29 : lw_okq (⟨"WriteOnceDiscModel", "isNode", "(I)Z"⟩, 41) := ⟨⟨by decide +kernel, by decide +kernel⟩, List.mem_of_getElem? (i := 906) (by decide +kernel), List.mem_of_getElem? (i := 1074) (by decide +kernel), List.mem_of_getElem? (i := 1075) (by decide +kernel)⟩
theorem lw_p30 : lw_okq (⟨"WriteOnceDiscModel", "depthOf", "(I)I"⟩, 41) := ⟨⟨by decide +kernel, by decide +kernel⟩, List.mem_of_getElem? (i := 906) (by decide +kernel), List.mem_of_getElem? (i := 1078) (by decide +kernel), List.mem_of_getElem? (i := 1079) (by decide +kernel)⟩
theorem lw_p31 : lw_okq (⟨"WriteOnceDiscModel", "namedIn", "(IJ)I"⟩, 41) := ⟨⟨by decide +kernel, by decide +kernel⟩, List.mem_of_getElem? (i := 906) (by decide +kernel), List.mem_of_getElem? (i := 1082) (by decide +kernel), List.mem_of_getElem? (i := 1083) (by decide +kernel)⟩
def lw_privs_2 : List (MethodName × Nat) := [(⟨"WriteOnceDisc$Reader", "hasSectors", "(LWriteOnceDisc$Node;)Z"⟩, 5), (⟨"WriteOnceDisc$Reader", "isSpecial", "(II)Z"⟩, 5), (⟨"WriteOnceDisc$Reader", "hasDirectory", "(LWriteOnceDisc$Node;)Z"⟩, 5), (⟨"WriteOnceDisc$Reader", "saysDirectory", "(IILWriteOnceDisc$Node;)Z"⟩, 5), (⟨"WriteOnceDisc$Reader", "takesNode", "(ILWriteOnceDisc$Node;)Z"⟩, 5), (⟨"WriteOnceDisc$Reader", "takesIdentifier", "(ILWriteOnceDisc$Node;)Z"⟩, 5), (⟨"WriteOnceDisc$Reader", "isToldOnce", "(LWriteOnceDisc$Node;)Z"⟩, 5), (⟨"WriteOnceDisc$Reader", "hasPathTables", "(I)Z"⟩, 5), (⟨"WriteOnceDisc$Reader", "hasTable", "(II)Z"⟩, 5), (⟨"java/lang/Throwable", "fillInStackTrace", "(I)Ljava/lang/Throwable;"⟩, 6), (⟨"WriteOnceDisc", "openedNode", "(I)LWriteOnceDisc$Node;"⟩, 9), (⟨"WriteOnceDiscModel", "rootAlone", "()V"⟩, 41), (⟨"WriteOnceDiscModel", "add", "(IJZIIZ)I"⟩, 41), (⟨"WriteOnceDiscModel", "isNode", "(I)Z"⟩, 41), (⟨"WriteOnceDiscModel", "depthOf", "(I)I"⟩, 41), (⟨"WriteOnceDiscModel", "namedIn", "(IJ)I"⟩, 41)]
theorem lw_r2 : ∀ q ∈ lw_privs_2, lw_okq q := List.forall_mem_cons.mpr ⟨lw_p16, List.forall_mem_cons.mpr ⟨lw_p17, List.forall_mem_cons.mpr ⟨lw_p18, List.forall_mem_cons.mpr ⟨lw_p19, List.forall_mem_cons.mpr ⟨lw_p20, List.forall_mem_cons.mpr ⟨lw_p21, List.forall_mem_cons.mpr ⟨lw_p22, List.forall_mem_cons.mpr ⟨lw_p23, List.forall_mem_cons.mpr ⟨lw_p24, List.forall_mem_cons.mpr ⟨lw_p25, List.forall_mem_cons.mpr ⟨lw_p26, List.forall_mem_cons.mpr ⟨lw_p27, List.forall_mem_cons.mpr ⟨lw_p28, List.forall_mem_cons.mpr ⟨lw_p29, List.forall_mem_cons.mpr ⟨lw_p30, List.forall_mem_cons.mpr ⟨lw_p31, fun _ h => absurd h List.not_mem_nil⟩⟩⟩⟩⟩⟩⟩⟩⟩⟩⟩⟩⟩⟩⟩⟩
theorem lw_p32 : lw_okq (⟨"WriteOnceDiscModel", "alive", "()I"⟩, 41) := ⟨⟨by decide +kernel, by decide +kernel⟩, List.mem_of_getElem? (i := 906) (by decide +kernel), List.mem_of_getElem? (i := 1086) (by decide +kernel), List.mem_of_getElem? (i := 1087) (by decide +kernel)⟩
theorem lw_p33 : lw_okq (⟨"WriteOnceDiscModel", "liesIn", "(II)Z"⟩, 41) := ⟨⟨by decide +kernel, by decide +kernel⟩, List.mem_of_getElem? (i := 906) (by decide +kernel), List.mem_of_getElem? (i := 1109) (by decide +kernel), List.mem_of_getElem? (i := 1110) (by decide +kernel)⟩
theorem lw_p34 : lw_okq (⟨"WriteOnceDiscModel", "lay", "(IIZ)I"⟩, 41) := ⟨⟨by decide +kernel, by decide +kernel⟩, List.mem_of_getElem? (i := 906) (by decide +kernel), List.mem_of_getElem? (i := 1121) (by decide +kernel), List.mem_of_getElem? (i := 1122) (by decide +kernel)⟩
theorem lw_p35 : lw_okq (⟨"WriteOnceDiscModel", "frontOf", "(I)I"⟩, 41) := ⟨⟨by decide +kernel, by decide +kernel⟩, List.mem_of_getElem? (i := 906) (by decide +kernel), List.mem_of_getElem? (i := 1125) (by decide +kernel), List.mem_of_getElem? (i := 1126) (by decide +kernel)⟩
theorem lw_p36 : lw_okq (⟨"WriteOnceDiscModel", "fill", "(IIZ)V"⟩, 41) := ⟨⟨by decide +kernel, by decide +kernel⟩, List.mem_of_getElem? (i := 906) (by decide +kernel), List.mem_of_getElem? (i := 1129) (by decide +kernel), List.mem_of_getElem? (i := 1130) (by decide +kernel)⟩
theorem lw_p37 : lw_okq (⟨"WriteOnceDiscModel", "get", "(I)I"⟩, 41) := ⟨⟨by decide +kernel, by decide +kernel⟩, List.mem_of_getElem? (i := 906) (by decide +kernel), List.mem_of_getElem? (i := 1133) (by decide +kernel), List.mem_of_getElem? (i := 1134) (by decide +kernel)⟩
theorem lw_p38 : lw_okq (⟨"WriteOnceDiscModel", "burn", "(II)I"⟩, 41) := ⟨⟨by decide +kernel, by decide +kernel⟩, List.mem_of_getElem? (i := 906) (by decide +kernel), List.mem_of_getElem? (i := 1137) (by decide +kernel), List.mem_of_getElem? (i := 1138) (by decide +kernel)⟩
theorem lw_p39 : lw_okq (⟨"WriteOnceDiscModel", "session", "(II)I"⟩, 41) := ⟨⟨by decide +kernel, by decide +kernel⟩, List.mem_of_getElem? (i := 906) (by decide +kernel), List.mem_of_getElem? (i := 1141) (by decide +kernel), List.mem_of_getElem? (i := 1142) (by decide +kernel)⟩
theorem lw_p40 : lw_okq (⟨"WriteOnceDiscModel", "measure", "(I)I"⟩, 41) := ⟨⟨by decide +kernel, by decide +kernel⟩, List.mem_of_getElem? (i := 906) (by decide +kernel), List.mem_of_getElem? (i := 1145) (by decide +kernel), List.mem_of_getElem? (i := 1146) (by decide +kernel)⟩
theorem lw_p41 : lw_okq (⟨"WriteOnceDiscModel", "tables", "()V"⟩, 41) := ⟨⟨by decide +kernel, by decide +kernel⟩, List.mem_of_getElem? (i := 906) (by decide +kernel), List.mem_of_getElem? (i := 1149) (by decide +kernel), List.mem_of_getElem? (i := 1150) (by decide +kernel)⟩
theorem lw_p42 : lw_okq (⟨"WriteOnceDiscModel", "next", "(II)I"⟩, 41) := ⟨⟨by decide +kernel, by decide +kernel⟩, List.mem_of_getElem? (i := 906) (by decide +kernel), List.mem_of_getElem? (i := 1153) (by decide +kernel), List.mem_of_getElem? (i := 1154) (by decide +kernel)⟩
theorem lw_p43 : lw_okq (⟨"WriteOnceDiscModel", "along", "(IIZ)I"⟩, 41) := ⟨⟨by decide +kernel, by decide +kernel⟩, List.mem_of_getElem? (i := 906) (by decide +kernel), List.mem_of_getElem? (i := 1169) (by decide +kernel), List.mem_of_getElem? (i := 1170) (by decide +kernel)⟩
theorem lw_p44 : lw_okq (⟨"WriteOnceDiscModel", "recordId", "(II)I"⟩, 41) := ⟨⟨by decide +kernel, by decide +kernel⟩, List.mem_of_getElem? (i := 906) (by decide +kernel), List.mem_of_getElem? (i := 1173) (by decide +kernel), List.mem_of_getElem? (i := 1174) (by decide +kernel)⟩
theorem lw_p45 : lw_okq (⟨"WriteOnceDiscModel", "record", "(III)V"⟩, 41) := ⟨⟨by decide +kernel, by decide +kernel⟩, List.mem_of_getElem? (i := 906) (by decide +kernel), List.mem_of_getElem? (i := 1183) (by decide +kernel), List.mem_of_getElem? (i := 1184) (by decide +kernel)⟩
theorem lw_p46 : lw_okq (⟨"WriteOnceDiscModel", "both", "(III)V"⟩, 41) := ⟨⟨by decide +kernel, by decide +kernel⟩, List.mem_of_getElem? (i := 906) (by decide +kernel), List.mem_of_getElem? (i := 1187) (by decide +kernel), List.mem_of_getElem? (i := 1188) (by decide +kernel)⟩
theorem lw_p47 : lw_okq (⟨"WriteOnceDiscModel", "low", "(III)V"⟩, 41) := ⟨⟨by decide +kernel, by decide +kernel⟩, List.mem_of_getElem? (i := 906) (by decide +kernel), List.mem_of_getElem? (i := 1191) (by decide +kernel), List.mem_of_getElem? (i := 1192) (by decide +kernel)⟩
def lw_privs_3 : List (MethodName × Nat) := [(⟨"WriteOnceDiscModel", "alive", "()I"⟩, 41), (⟨"WriteOnceDiscModel", "liesIn", "(II)Z"⟩, 41), (⟨"WriteOnceDiscModel", "lay", "(IIZ)I"⟩, 41), (⟨"WriteOnceDiscModel", "frontOf", "(I)I"⟩, 41), (⟨"WriteOnceDiscModel", "fill", "(IIZ)V"⟩, 41), (⟨"WriteOnceDiscModel", "get", "(I)I"⟩, 41), (⟨"WriteOnceDiscModel", "burn", "(II)I"⟩, 41), (⟨"WriteOnceDiscModel", "session", "(II)I"⟩, 41), (⟨"WriteOnceDiscModel", "measure", "(I)I"⟩, 41), (⟨"WriteOnceDiscModel", "tables", "()V"⟩, 41), (⟨"WriteOnceDiscModel", "next", "(II)I"⟩, 41), (⟨"WriteOnceDiscModel", "along", "(IIZ)I"⟩, 41), (⟨"WriteOnceDiscModel", "recordId", "(II)I"⟩, 41), (⟨"WriteOnceDiscModel", "record", "(III)V"⟩, 41), (⟨"WriteOnceDiscModel", "both", "(III)V"⟩, 41), (⟨"WriteOnceDiscModel", "low", "(III)V"⟩, 41)]
theorem lw_r3 : ∀ q ∈ lw_privs_3, lw_okq q := List.forall_mem_cons.mpr ⟨lw_p32, List.forall_mem_cons.mpr ⟨lw_p33, List.forall_mem_cons.mpr ⟨lw_p34, List.forall_mem_cons.mpr ⟨lw_p35, List.forall_mem_cons.mpr ⟨lw_p36, List.forall_mem_cons.mpr ⟨lw_p37, List.forall_mem_cons.mpr ⟨lw_p38, List.forall_mem_cons.mpr ⟨lw_p39, List.forall_mem_cons.mpr ⟨lw_p40, List.forall_mem_cons.mpr ⟨lw_p41, List.forall_mem_cons.mpr ⟨lw_p42, List.forall_mem_cons.mpr ⟨lw_p43, List.forall_mem_cons.mpr ⟨lw_p44, List.forall_mem_cons.mpr ⟨lw_p45, List.forall_mem_cons.mpr ⟨lw_p46, List.forall_mem_cons.mpr ⟨lw_p47, fun _ h => absurd h List.not_mem_nil⟩⟩⟩⟩⟩⟩⟩⟩⟩⟩⟩⟩⟩⟩⟩⟩
theorem lw_p48 : lw_okq (⟨"WriteOnceDiscModel", "high", "(III)V"⟩, 41) := ⟨⟨by decide +kernel, by decide +kernel⟩, List.mem_of_getElem? (i := 906) (by decide +kernel), List.mem_of_getElem? (i := 1195) (by decide +kernel), List.mem_of_getElem? (i := 1196) (by decide +kernel)⟩
theorem lw_p49 : lw_okq (⟨"WriteOnceDiscModel", "design", "(III)V"⟩, 41) := ⟨⟨by decide +kernel, by decide +kernel⟩, List.mem_of_getElem? (i := 906) (by decide +kernel), List.mem_of_getElem? (i := 1199) (by decide +kernel), List.mem_of_getElem? (i := 1200) (by decide +kernel)⟩
theorem lw_p50 : lw_okq (⟨"WriteOnceDiscModel", "letters", "(IIIIII)V"⟩, 41) := ⟨⟨by decide +kernel, by decide +kernel⟩, List.mem_of_getElem? (i := 906) (by decide +kernel), List.mem_of_getElem? (i := 1203) (by decide +kernel), List.mem_of_getElem? (i := 1204) (by decide +kernel)⟩
theorem lw_p51 : lw_okq (⟨"WriteOnceDiscModel", "numberOf", "(I)I"⟩, 41) := ⟨⟨by decide +kernel, by decide +kernel⟩, List.mem_of_getElem? (i := 906) (by decide +kernel), List.mem_of_getElem? (i := 1207) (by decide +kernel), List.mem_of_getElem? (i := 1208) (by decide +kernel)⟩
theorem lw_p52 : lw_okq (⟨"WriteOnceDiscModel", "markAt", "(I)I"⟩, 41) := ⟨⟨by decide +kernel, by decide +kernel⟩, List.mem_of_getElem? (i := 906) (by decide +kernel), List.mem_of_getElem? (i := 1220) (by decide +kernel), List.mem_of_getElem? (i := 1221) (by decide +kernel)⟩
theorem lw_p53 : lw_okq (⟨"WriteOnceDiscModel", "isMark", "(I)Z"⟩, 41) := ⟨⟨by decide +kernel, by decide +kernel⟩, List.mem_of_getElem? (i := 906) (by decide +kernel), List.mem_of_getElem? (i := 1224) (by decide +kernel), List.mem_of_getElem? (i := 1225) (by decide +kernel)⟩
theorem lw_p54 : lw_okq (⟨"WriteOnceDiscModel", "isWrittenSector", "(I)Z"⟩, 41) := ⟨⟨by decide +kernel, by decide +kernel⟩, List.mem_of_getElem? (i := 906) (by decide +kernel), List.mem_of_getElem? (i := 1228) (by decide +kernel), List.mem_of_getElem? (i := 1229) (by decide +kernel)⟩
theorem lw_p55 : lw_okq (⟨"WriteOnceDiscModel", "lowAt", "(II)I"⟩, 41) := ⟨⟨by decide +kernel, by decide +kernel⟩, List.mem_of_getElem? (i := 906) (by decide +kernel), List.mem_of_getElem? (i := 1232) (by decide +kernel), List.mem_of_getElem? (i := 1233) (by decide +kernel)⟩
theorem lw_p56 : lw_okq (⟨"WriteOnceDiscModel", "look", "(I)I"⟩, 41) := ⟨⟨by decide +kernel, by decide +kernel⟩, List.mem_of_getElem? (i := 906) (by decide +kernel), List.mem_of_getElem? (i := 1236) (by decide +kernel), List.mem_of_getElem? (i := 1237) (by decide +kernel)⟩
theorem lw_p57 : lw_okq (⟨"WriteOnceDiscModel", "isRead", "(I)Z"⟩, 41) := ⟨⟨by decide +kernel, by decide +kernel⟩, List.mem_of_getElem? (i := 906) (by decide +kernel), List.mem_of_getElem? (i := 1240) (by decide +kernel), List.mem_of_getElem? (i := 1241) (by decide +kernel)⟩
theorem lw_p58 : lw_okq (⟨"WriteOnceDiscModel", "no", "(I)Z"⟩, 41) := ⟨⟨by decide +kernel, by decide +kernel⟩, List.mem_of_getElem? (i := 906) (by decide +kernel), List.mem_of_getElem? (i := 1244) (by decide +kernel), List.mem_of_getElem? (i := 1245) (by decide +kernel)⟩
theorem lw_p59 : lw_okq (⟨"WriteOnceDiscModel", "begins", "(II)Z"⟩, 41) := ⟨⟨by decide +kernel, by decide +kernel⟩, List.mem_of_getElem? (i := 906) (by decide +kernel), List.mem_of_getElem? (i := 1248) (by decide +kernel), List.mem_of_getElem? (i := 1249) (by decide +kernel)⟩
theorem lw_p60 : lw_okq (⟨"WriteOnceDiscModel", "highAt", "(II)I"⟩, 41) := ⟨⟨by decide +kernel, by decide +kernel⟩, List.mem_of_getElem? (i := 906) (by decide +kernel), List.mem_of_getElem? (i := 1252) (by decide +kernel), List.mem_of_getElem? (i := 1253) (by decide +kernel)⟩
theorem lw_p61 : lw_okq (⟨"WriteOnceDiscModel", "isRecord", "(II)Z"⟩, 41) := ⟨⟨by decide +kernel, by decide +kernel⟩, List.mem_of_getElem? (i := 906) (by decide +kernel), List.mem_of_getElem? (i := 1256) (by decide +kernel), List.mem_of_getElem? (i := 1257) (by decide +kernel)⟩
theorem lw_p62 : lw_okq (⟨"WriteOnceDiscModel", "isName", "(II)Z"⟩, 41) := ⟨⟨by decide +kernel, by decide +kernel⟩, List.mem_of_getElem? (i := 906) (by decide +kernel), List.mem_of_getElem? (i := 1260) (by decide +kernel), List.mem_of_getElem? (i := 1261) (by decide +kernel)⟩
theorem lw_p63 : lw_okq (⟨"WriteOnceDiscModel", "areWritten", "(IJ)Z"⟩, 41) := ⟨⟨by decide +kernel, by decide +kernel⟩, List.mem_of_getElem? (i := 906) (by decide +kernel), List.mem_of_getElem? (i := 1266) (by decide +kernel), List.mem_of_getElem? (i := 1267) (by decide +kernel)⟩
def lw_privs_4 : List (MethodName × Nat) := [(⟨"WriteOnceDiscModel", "high", "(III)V"⟩, 41), (⟨"WriteOnceDiscModel", "design", "(III)V"⟩, 41), (⟨"WriteOnceDiscModel", "letters", "(IIIIII)V"⟩, 41), (⟨"WriteOnceDiscModel", "numberOf", "(I)I"⟩, 41), (⟨"WriteOnceDiscModel", "markAt", "(I)I"⟩, 41), (⟨"WriteOnceDiscModel", "isMark", "(I)Z"⟩, 41), (⟨"WriteOnceDiscModel", "isWrittenSector", "(I)Z"⟩, 41), (⟨"WriteOnceDiscModel", "lowAt", "(II)I"⟩, 41), (⟨"WriteOnceDiscModel", "look", "(I)I"⟩, 41), (⟨"WriteOnceDiscModel", "isRead", "(I)Z"⟩, 41), (⟨"WriteOnceDiscModel", "no", "(I)Z"⟩, 41), (⟨"WriteOnceDiscModel", "begins", "(II)Z"⟩, 41), (⟨"WriteOnceDiscModel", "highAt", "(II)I"⟩, 41), (⟨"WriteOnceDiscModel", "isRecord", "(II)Z"⟩, 41), (⟨"WriteOnceDiscModel", "isName", "(II)Z"⟩, 41), (⟨"WriteOnceDiscModel", "areWritten", "(IJ)Z"⟩, 41)]
theorem lw_r4 : ∀ q ∈ lw_privs_4, lw_okq q := List.forall_mem_cons.mpr ⟨lw_p48, List.forall_mem_cons.mpr ⟨lw_p49, List.forall_mem_cons.mpr ⟨lw_p50, List.forall_mem_cons.mpr ⟨lw_p51, List.forall_mem_cons.mpr ⟨lw_p52, List.forall_mem_cons.mpr ⟨lw_p53, List.forall_mem_cons.mpr ⟨lw_p54, List.forall_mem_cons.mpr ⟨lw_p55, List.forall_mem_cons.mpr ⟨lw_p56, List.forall_mem_cons.mpr ⟨lw_p57, List.forall_mem_cons.mpr ⟨lw_p58, List.forall_mem_cons.mpr ⟨lw_p59, List.forall_mem_cons.mpr ⟨lw_p60, List.forall_mem_cons.mpr ⟨lw_p61, List.forall_mem_cons.mpr ⟨lw_p62, List.forall_mem_cons.mpr ⟨lw_p63, fun _ h => absurd h List.not_mem_nil⟩⟩⟩⟩⟩⟩⟩⟩⟩⟩⟩⟩⟩⟩⟩⟩
theorem lw_p64 : lw_okq (⟨"WriteOnceDiscModel", "begin", "(IIIZ)V"⟩, 41) := ⟨⟨by decide +kernel, by decide +kernel⟩, List.mem_of_getElem? (i := 906) (by decide +kernel), List.mem_of_getElem? (i := 1270) (by decide +kernel), List.mem_of_getElem? (i := 1271) (by decide +kernel)⟩
theorem lw_p65 : lw_okq (⟨"WriteOnceDiscModel", "isGone", "(I)Z"⟩, 41) := ⟨⟨by decide +kernel, by decide +kernel⟩, List.mem_of_getElem? (i := 906) (by decide +kernel), List.mem_of_getElem? (i := 1274) (by decide +kernel), List.mem_of_getElem? (i := 1275) (by decide +kernel)⟩
theorem lw_p66 : lw_okq (⟨"WriteOnceDiscModel", "isNew", "(III)Z"⟩, 41) := ⟨⟨by decide +kernel, by decide +kernel⟩, List.mem_of_getElem? (i := 906) (by decide +kernel), List.mem_of_getElem? (i := 1278) (by decide +kernel), List.mem_of_getElem? (i := 1279) (by decide +kernel)⟩
theorem lw_p67 : lw_okq (⟨"WriteOnceDiscModel", "tableIs", "(I)I"⟩, 41) := ⟨⟨by decide +kernel, by decide +kernel⟩, List.mem_of_getElem? (i := 906) (by decide +kernel), List.mem_of_getElem? (i := 1282) (by decide +kernel), List.mem_of_getElem? (i := 1283) (by decide +kernel)⟩
theorem lw_p68 : lw_okq (⟨"WriteOnceDiscModel", "expect", "(II)I"⟩, 41) := ⟨⟨by decide +kernel, by decide +kernel⟩, List.mem_of_getElem? (i := 906) (by decide +kernel), List.mem_of_getElem? (i := 1286) (by decide +kernel), List.mem_of_getElem? (i := 1287) (by decide +kernel)⟩
def lw_privs_5 : List (MethodName × Nat) := [(⟨"WriteOnceDiscModel", "begin", "(IIIZ)V"⟩, 41), (⟨"WriteOnceDiscModel", "isGone", "(I)Z"⟩, 41), (⟨"WriteOnceDiscModel", "isNew", "(III)Z"⟩, 41), (⟨"WriteOnceDiscModel", "tableIs", "(I)I"⟩, 41), (⟨"WriteOnceDiscModel", "expect", "(II)I"⟩, 41)]
theorem lw_r5 : ∀ q ∈ lw_privs_5, lw_okq q := List.forall_mem_cons.mpr ⟨lw_p64, List.forall_mem_cons.mpr ⟨lw_p65, List.forall_mem_cons.mpr ⟨lw_p66, List.forall_mem_cons.mpr ⟨lw_p67, List.forall_mem_cons.mpr ⟨lw_p68, fun _ h => absurd h List.not_mem_nil⟩⟩⟩⟩⟩
def lw_privs : List (MethodName × Nat) := lw_privs_1 ++ (lw_privs_2 ++ (lw_privs_3 ++ (lw_privs_4 ++ (lw_privs_5))))
def lw_tbl : List Cond := k2_sels lw_privs ++ tables_1
theorem lw_privs_ok : ∀ q ∈ lw_privs, lw_okq q := by
  show ∀ q ∈ lw_privs_1 ++ (lw_privs_2 ++ (lw_privs_3 ++ (lw_privs_4 ++ (lw_privs_5)))), lw_okq q
  exact List.forall_mem_append.mpr ⟨lw_r1, List.forall_mem_append.mpr ⟨lw_r2, List.forall_mem_append.mpr ⟨lw_r3, List.forall_mem_append.mpr ⟨lw_r4, lw_r5⟩⟩⟩⟩
end
section
/-! my names: classes, fields, methods -/
def R_Di : String := "WriteOnceDisc"
def R_Me : String := "WriteOnceDisc$Medium"
def R_No : String := "WriteOnceDisc$Node"
def R_Ns : String := "WriteOnceDisc$Nodes"
def R_Pg : String := "WriteOnceDisc$Page"
def R_Po : String := "WriteOnceDisc$Power"
def R_Re : String := "WriteOnceDisc$Reader"
def R_Se : String := "WriteOnceDisc$Sector"
def R_Wr : String := "WriteOnceDisc$Writer"
def R_Mo : String := "WriteOnceDiscModel"
def R_La : String := "WriteOnceDiscLaw"
def R_St : String := "java/lang/String"
def R_Ar : String := "java/util/Arrays"
def R_S1 : String := "java/lang/StringLatin1"
def R_Pr : String := "jdk/internal/util/Preconditions"
def F_Me : u_T := fun k => match k with
  | 0 => ("WriteOnceDisc$Medium", "sectors", "[LWriteOnceDisc$Sector;", true)
  | _ => ("WriteOnceDisc$Medium", "front", "I", false)
def t_Me : Nat → FieldType := fun k => match k with
  | 0 => (.array (.object "WriteOnceDisc$Sector"))
  | _ => .int
theorem nm_Me : ∀ a, a < 2 → ∀ b, b < 2 → a ≠ b → (F_Me a).2.1 ≠ (F_Me b).2.1 := by decide +kernel
theorem tk_Me : ∀ k, k < 2 → parseFieldDescriptor (F_Me k).2.2.1 = some (t_Me k) := by decide +kernel
def F_No : u_T := fun k => match k with
  | 0 => ("WriteOnceDisc$Node", "number", "I", false)
  | 1 => ("WriteOnceDisc$Node", "parent", "LWriteOnceDisc$Node;", false)
  | 2 => ("WriteOnceDisc$Node", "isDirectory", "Z", false)
  | 3 => ("WriteOnceDisc$Node", "word", "J", false)
  | 4 => ("WriteOnceDisc$Node", "letters", "I", false)
  | 5 => ("WriteOnceDisc$Node", "size", "I", false)
  | 6 => ("WriteOnceDisc$Node", "seed", "I", false)
  | 7 => ("WriteOnceDisc$Node", "isWritten", "Z", false)
  | 8 => ("WriteOnceDisc$Node", "extent", "I", false)
  | 9 => ("WriteOnceDisc$Node", "sector", "I", false)
  | _ => ("WriteOnceDisc$Node", "numberInPathTable", "I", false)
def t_No : Nat → FieldType := fun k => match k with
  | 0 => .int
  | 1 => (.object "WriteOnceDisc$Node")
  | 2 => .boolean
  | 3 => .long
  | 4 => .int
  | 5 => .int
  | 6 => .int
  | 7 => .boolean
  | 8 => .int
  | 9 => .int
  | _ => .int
theorem nm_No : ∀ a, a < 11 → ∀ b, b < 11 → a ≠ b → (F_No a).2.1 ≠ (F_No b).2.1 := by decide +kernel
theorem tk_No : ∀ k, k < 11 → parseFieldDescriptor (F_No k).2.2.1 = some (t_No k) := by decide +kernel
def F_Ns : u_T := fun k => match k with
  | 0 => ("WriteOnceDisc$Nodes", "slots", "[LWriteOnceDisc$Node;", true)
  | 1 => ("WriteOnceDisc$Nodes", "order", "[LWriteOnceDisc$Node;", true)
  | 2 => ("WriteOnceDisc$Nodes", "count", "I", false)
  | _ => ("WriteOnceDisc$Nodes", "nextNumber", "I", false)
def t_Ns : Nat → FieldType := fun k => match k with
  | 0 => (.array (.object "WriteOnceDisc$Node"))
  | 1 => (.array (.object "WriteOnceDisc$Node"))
  | 2 => .int
  | _ => .int
theorem nm_Ns : ∀ a, a < 4 → ∀ b, b < 4 → a ≠ b → (F_Ns a).2.1 ≠ (F_Ns b).2.1 := by decide +kernel
theorem tk_Ns : ∀ k, k < 4 → parseFieldDescriptor (F_Ns k).2.2.1 = some (t_Ns k) := by decide +kernel
def F_Pg : u_T := fun k => match k with
  | _ => ("WriteOnceDisc$Page", "bytes", "[B", true)
def t_Pg : Nat → FieldType := fun k => match k with
  | _ => (.array .byte)
theorem nm_Pg : ∀ a, a < 1 → ∀ b, b < 1 → a ≠ b → (F_Pg a).2.1 ≠ (F_Pg b).2.1 := by decide +kernel
theorem tk_Pg : ∀ k, k < 1 → parseFieldDescriptor (F_Pg k).2.2.1 = some (t_Pg k) := by decide +kernel
def F_Po : u_T := fun k => match k with
  | 0 => ("WriteOnceDisc$Power", "left", "I", false)
  | 1 => ("WriteOnceDisc$Power", "isLost", "Z", false)
  | _ => ("WriteOnceDisc$Power", "spent", "I", false)
def t_Po : Nat → FieldType := fun k => match k with
  | 0 => .int
  | 1 => .boolean
  | _ => .int
theorem nm_Po : ∀ a, a < 3 → ∀ b, b < 3 → a ≠ b → (F_Po a).2.1 ≠ (F_Po b).2.1 := by decide +kernel
theorem tk_Po : ∀ k, k < 3 → parseFieldDescriptor (F_Po k).2.2.1 = some (t_Po k) := by decide +kernel
def F_Re : u_T := fun k => match k with
  | 0 => ("WriteOnceDisc$Reader", "table", "LWriteOnceDisc$Page;", true)
  | 1 => ("WriteOnceDisc$Reader", "told", "LWriteOnceDisc$Node;", true)
  | 2 => ("WriteOnceDisc$Reader", "medium", "LWriteOnceDisc$Medium;", false)
  | 3 => ("WriteOnceDisc$Reader", "nodes", "LWriteOnceDisc$Nodes;", false)
  | _ => ("WriteOnceDisc$Reader", "wrongPlace", "I", false)
def t_Re : Nat → FieldType := fun k => match k with
  | 0 => (.object "WriteOnceDisc$Page")
  | 1 => (.object "WriteOnceDisc$Node")
  | 2 => (.object "WriteOnceDisc$Medium")
  | 3 => (.object "WriteOnceDisc$Nodes")
  | _ => .int
theorem nm_Re : ∀ a, a < 5 → ∀ b, b < 5 → a ≠ b → (F_Re a).2.1 ≠ (F_Re b).2.1 := by decide +kernel
theorem tk_Re : ∀ k, k < 5 → parseFieldDescriptor (F_Re k).2.2.1 = some (t_Re k) := by decide +kernel
def F_Se : u_T := fun k => match k with
  | 0 => ("WriteOnceDisc$Sector", "condition", "I", false)
  | 1 => ("WriteOnceDisc$Sector", "isDefective", "Z", false)
  | _ => ("WriteOnceDisc$Sector", "bytes", "[B", false)
def t_Se : Nat → FieldType := fun k => match k with
  | 0 => .int
  | 1 => .boolean
  | _ => (.array .byte)
theorem nm_Se : ∀ a, a < 3 → ∀ b, b < 3 → a ≠ b → (F_Se a).2.1 ≠ (F_Se b).2.1 := by decide +kernel
theorem tk_Se : ∀ k, k < 3 → parseFieldDescriptor (F_Se k).2.2.1 = some (t_Se k) := by decide +kernel
def F_Wr : u_T := fun k => match k with
  | 0 => ("WriteOnceDisc$Writer", "supply", "LWriteOnceDisc$Power;", true)
  | _ => ("WriteOnceDisc$Writer", "page", "LWriteOnceDisc$Page;", true)
def t_Wr : Nat → FieldType := fun k => match k with
  | 0 => (.object "WriteOnceDisc$Power")
  | _ => (.object "WriteOnceDisc$Page")
theorem nm_Wr : ∀ a, a < 2 → ∀ b, b < 2 → a ≠ b → (F_Wr a).2.1 ≠ (F_Wr b).2.1 := by decide +kernel
theorem tk_Wr : ∀ k, k < 2 → parseFieldDescriptor (F_Wr k).2.2.1 = some (t_Wr k) := by decide +kernel
def F_Di : u_T := fun k => match k with
  | 0 => ("WriteOnceDisc", "writer", "LWriteOnceDisc$Writer;", true)
  | 1 => ("WriteOnceDisc", "reader", "LWriteOnceDisc$Reader;", true)
  | 2 => ("WriteOnceDisc", "planned", "LWriteOnceDisc$Nodes;", true)
  | 3 => ("WriteOnceDisc", "medium", "LWriteOnceDisc$Medium;", false)
  | 4 => ("WriteOnceDisc", "spare", "LWriteOnceDisc$Medium;", false)
  | 5 => ("WriteOnceDisc", "lastNumber", "I", false)
  | 6 => ("WriteOnceDisc", "isOpen", "Z", false)
  | 7 => ("WriteOnceDisc", "opened", "LWriteOnceDisc$Nodes;", false)
  | _ => ("WriteOnceDisc", "scratch", "LWriteOnceDisc$Nodes;", false)
def t_Di : Nat → FieldType := fun k => match k with
  | 0 => (.object "WriteOnceDisc$Writer")
  | 1 => (.object "WriteOnceDisc$Reader")
  | 2 => (.object "WriteOnceDisc$Nodes")
  | 3 => (.object "WriteOnceDisc$Medium")
  | 4 => (.object "WriteOnceDisc$Medium")
  | 5 => .int
  | 6 => .boolean
  | 7 => (.object "WriteOnceDisc$Nodes")
  | _ => (.object "WriteOnceDisc$Nodes")
theorem nm_Di : ∀ a, a < 9 → ∀ b, b < 9 → a ≠ b → (F_Di a).2.1 ≠ (F_Di b).2.1 := by decide +kernel
theorem tk_Di : ∀ k, k < 9 → parseFieldDescriptor (F_Di k).2.2.1 = some (t_Di k) := by decide +kernel
def F_Mo : u_T := fun k => match k with
  | 0 => ("WriteOnceDiscModel", "thrown", "I", false)
  | 1 => ("WriteOnceDiscModel", "sectors", "I", true)
  | 2 => ("WriteOnceDiscModel", "side", "I", false)
  | 3 => ("WriteOnceDiscModel", "bytes", "[B", true)
  | 4 => ("WriteOnceDiscModel", "states", "[B", true)
  | 5 => ("WriteOnceDiscModel", "defective", "[Z", true)
  | 6 => ("WriteOnceDiscModel", "lost", "Z", false)
  | 7 => ("WriteOnceDiscModel", "left", "I", false)
  | 8 => ("WriteOnceDiscModel", "writes", "I", false)
  | 9 => ("WriteOnceDiscModel", "page", "[B", true)
  | 10 => ("WriteOnceDiscModel", "many", "I", false)
  | 11 => ("WriteOnceDiscModel", "isThere", "[Z", true)
  | 12 => ("WriteOnceDiscModel", "isDirectory", "[Z", true)
  | 13 => ("WriteOnceDiscModel", "parent", "[I", true)
  | 14 => ("WriteOnceDiscModel", "name", "[J", true)
  | 15 => ("WriteOnceDiscModel", "size", "[I", true)
  | 16 => ("WriteOnceDiscModel", "seed", "[I", true)
  | 17 => ("WriteOnceDiscModel", "isWritten", "[Z", true)
  | 18 => ("WriteOnceDiscModel", "extent", "[I", true)
  | 19 => ("WriteOnceDiscModel", "older", "[I", true)
  | 20 => ("WriteOnceDiscModel", "number", "I", false)
  | 21 => ("WriteOnceDiscModel", "plan", "[B", true)
  | 22 => ("WriteOnceDiscModel", "directories", "I", false)
  | 23 => ("WriteOnceDiscModel", "planned", "I", false)
  | 24 => ("WriteOnceDiscModel", "table", "[I", true)
  | 25 => ("WriteOnceDiscModel", "at", "[I", true)
  | 26 => ("WriteOnceDiscModel", "long0", "[I", true)
  | 27 => ("WriteOnceDiscModel", "seen", "I", false)
  | 28 => ("WriteOnceDiscModel", "wrong", "I", false)
  | 29 => ("WriteOnceDiscModel", "sAbove", "[I", true)
  | 30 => ("WriteOnceDiscModel", "sDirectory", "[Z", true)
  | 31 => ("WriteOnceDiscModel", "sSize", "[I", true)
  | 32 => ("WriteOnceDiscModel", "sSector", "[I", true)
  | 33 => ("WriteOnceDiscModel", "sName", "[J", true)
  | 34 => ("WriteOnceDiscModel", "sDepth", "[I", true)
  | 35 => ("WriteOnceDiscModel", "opened", "I", false)
  | 36 => ("WriteOnceDiscModel", "oAbove", "[I", true)
  | 37 => ("WriteOnceDiscModel", "oDirectory", "[Z", true)
  | 38 => ("WriteOnceDiscModel", "oSize", "[I", true)
  | 39 => ("WriteOnceDiscModel", "oSector", "[I", true)
  | _ => ("WriteOnceDiscModel", "oName", "[J", true)
def t_Mo : Nat → FieldType := fun k => match k with
  | 0 => .int
  | 1 => .int
  | 2 => .int
  | 3 => (.array .byte)
  | 4 => (.array .byte)
  | 5 => (.array .boolean)
  | 6 => .boolean
  | 7 => .int
  | 8 => .int
  | 9 => (.array .byte)
  | 10 => .int
  | 11 => (.array .boolean)
  | 12 => (.array .boolean)
  | 13 => (.array .int)
  | 14 => (.array .long)
  | 15 => (.array .int)
  | 16 => (.array .int)
  | 17 => (.array .boolean)
  | 18 => (.array .int)
  | 19 => (.array .int)
  | 20 => .int
  | 21 => (.array .byte)
  | 22 => .int
  | 23 => .int
  | 24 => (.array .int)
  | 25 => (.array .int)
  | 26 => (.array .int)
  | 27 => .int
  | 28 => .int
  | 29 => (.array .int)
  | 30 => (.array .boolean)
  | 31 => (.array .int)
  | 32 => (.array .int)
  | 33 => (.array .long)
  | 34 => (.array .int)
  | 35 => .int
  | 36 => (.array .int)
  | 37 => (.array .boolean)
  | 38 => (.array .int)
  | 39 => (.array .int)
  | _ => (.array .long)
theorem nm_Mo : ∀ a, a < 41 → ∀ b, b < 41 → a ≠ b → (F_Mo a).2.1 ≠ (F_Mo b).2.1 := by decide +kernel
theorem tk_Mo : ∀ k, k < 41 → parseFieldDescriptor (F_Mo k).2.2.1 = some (t_Mo k) := by decide +kernel
abbrev vwCl : List vw_C := [(R_Me, F_Me, 2), (R_No, F_No, 11), (R_Ns, F_Ns, 4), (R_Pg, F_Pg, 1), (R_Po, F_Po, 3), (R_Re, F_Re, 5), (R_Se, F_Se, 3), (R_Wr, F_Wr, 2), (R_Di, F_Di, 9), (R_Mo, F_Mo, 41)]
/-! my names: code and name of each method -/
abbrev b_Di_init : ByteArray := prog_1_method_1_code
def y_Di_init : MethodName := ⟨R_Di, "<init>", "(I)V"⟩
abbrev b_Di_added : ByteArray := prog_1_method_22_code
def y_Di_added : MethodName := ⟨R_Di, "added", "(LWriteOnceDisc$Node;ZJ)I"⟩
abbrev b_Di_byteAt : ByteArray := prog_1_method_13_code
def y_Di_byteAt : MethodName := ⟨R_Di, "byteAt", "(I)I"⟩
abbrev b_Di_commit : ByteArray := prog_1_method_9_code
def y_Di_commit : MethodName := ⟨R_Di, "commit", "()I"⟩
abbrev b_Di_compact : ByteArray := prog_1_method_11_code
def y_Di_compact : MethodName := ⟨R_Di, "compact", "()I"⟩
abbrev b_Di_defect : ByteArray := prog_1_method_2_code
def y_Di_defect : MethodName := ⟨R_Di, "defect", "(I)Z"⟩
abbrev b_Di_directory : ByteArray := prog_1_method_4_code
def y_Di_directory : MethodName := ⟨R_Di, "directory", "(IJ)I"⟩
abbrev b_Di_discover : ByteArray := prog_1_method_10_code
def y_Di_discover : MethodName := ⟨R_Di, "discover", "()I"⟩
abbrev b_Di_evened : ByteArray := prog_1_method_28_code
def y_Di_evened : MethodName := ⟨R_Di, "evened", "(I)I"⟩
abbrev b_Di_file : ByteArray := prog_1_method_5_code
def y_Di_file : MethodName := ⟨R_Di, "file", "(IJII)I"⟩
abbrev b_Di_isContent : ByteArray := prog_1_method_24_code
def y_Di_isContent : MethodName := ⟨R_Di, "isContent", "(II)Z"⟩
abbrev b_Di_isNameByte : ByteArray := prog_1_method_25_code
def y_Di_isNameByte : MethodName := ⟨R_Di, "isNameByte", "(I)Z"⟩
abbrev b_Di_mark : ByteArray := prog_1_method_16_code
def y_Di_mark : MethodName := ⟨R_Di, "mark", "(II)I"⟩
abbrev b_Di_name : ByteArray := prog_1_method_19_code
def y_Di_name : MethodName := ⟨R_Di, "name", "(I)J"⟩
abbrev b_Di_nameIn : ByteArray := prog_1_method_26_code
def y_Di_nameIn : MethodName := ⟨R_Di, "nameIn", "(J)J"⟩
abbrev b_Di_node : ByteArray := prog_1_method_18_code
def y_Di_node : MethodName := ⟨R_Di, "node", "(II)I"⟩
abbrev b_Di_open : ByteArray := prog_1_method_17_code
def y_Di_open : MethodName := ⟨R_Di, "open", "(I)I"⟩
abbrev b_Di_openedNode : ByteArray := prog_1_method_23_code
def y_Di_openedNode : MethodName := ⟨R_Di, "openedNode", "(I)LWriteOnceDisc$Node;"⟩
abbrev b_Di_power : ByteArray := prog_1_method_3_code
def y_Di_power : MethodName := ⟨R_Di, "power", "(I)V"⟩
abbrev b_Di_read : ByteArray := prog_1_method_20_code
def y_Di_read : MethodName := ⟨R_Di, "read", "(II)I"⟩
abbrev b_Di_remove : ByteArray := prog_1_method_7_code
def y_Di_remove : MethodName := ⟨R_Di, "remove", "(I)I"⟩
abbrev b_Di_rename : ByteArray := prog_1_method_8_code
def y_Di_rename : MethodName := ⟨R_Di, "rename", "(IIJ)I"⟩
abbrev b_Di_replace : ByteArray := prog_1_method_6_code
def y_Di_replace : MethodName := ⟨R_Di, "replace", "(III)I"⟩
abbrev b_Di_sectorsFor : ByteArray := prog_1_method_27_code
def y_Di_sectorsFor : MethodName := ⟨R_Di, "sectorsFor", "(I)I"⟩
abbrev b_Di_spoil : ByteArray := prog_1_method_14_code
def y_Di_spoil : MethodName := ⟨R_Di, "spoil", "(II)I"⟩
abbrev b_Di_state : ByteArray := prog_1_method_12_code
def y_Di_state : MethodName := ⟨R_Di, "state", "(I)I"⟩
abbrev b_Di_tree : ByteArray := prog_1_method_21_code
def y_Di_tree : MethodName := ⟨R_Di, "tree", "(II)I"⟩
abbrev b_Di_writes : ByteArray := prog_1_method_15_code
def y_Di_writes : MethodName := ⟨R_Di, "writes", "()I"⟩
abbrev b_Me_init : ByteArray := prog_2_method_1_code
def y_Me_init : MethodName := ⟨R_Me, "<init>", "(I)V"⟩
abbrev b_Me_change : ByteArray := prog_2_method_10_code
def y_Me_change : MethodName := ⟨R_Me, "change", "(II)I"⟩
abbrev b_Me_copyInto : ByteArray := prog_2_method_9_code
def y_Me_copyInto : MethodName := ⟨R_Me, "copyInto", "([BII)V"⟩
abbrev b_Me_erase : ByteArray := prog_2_method_2_code
def y_Me_erase : MethodName := ⟨R_Me, "erase", "()V"⟩
abbrev b_Me_fetch : ByteArray := prog_2_method_8_code
def y_Me_fetch : MethodName := ⟨R_Me, "fetch", "(I)I"⟩
abbrev b_Me_halvesAgree : ByteArray := prog_2_method_13_code
def y_Me_halvesAgree : MethodName := ⟨R_Me, "halvesAgree", "(II)Z"⟩
abbrev b_Me_has : ByteArray := prog_2_method_3_code
def y_Me_has : MethodName := ⟨R_Me, "has", "(I)Z"⟩
abbrev b_Me_hasRoom : ByteArray := prog_2_method_6_code
def y_Me_hasRoom : MethodName := ⟨R_Me, "hasRoom", "(II)Z"⟩
abbrev b_Me_hasText : ByteArray := prog_2_method_14_code
def y_Me_hasText : MethodName := ⟨R_Me, "hasText", "(ILjava/lang/String;)Z"⟩
abbrev b_Me_high : ByteArray := prog_2_method_12_code
def y_Me_high : MethodName := ⟨R_Me, "high", "(II)I"⟩
abbrev b_Me_isMark : ByteArray := prog_2_method_15_code
def y_Me_isMark : MethodName := ⟨R_Me, "isMark", "(I)Z"⟩
abbrev b_Me_isWritten : ByteArray := prog_2_method_4_code
def y_Me_isWritten : MethodName := ⟨R_Me, "isWritten", "(I)Z"⟩
abbrev b_Me_low : ByteArray := prog_2_method_11_code
def y_Me_low : MethodName := ⟨R_Me, "low", "(II)I"⟩
abbrev b_Me_markedBase : ByteArray := prog_2_method_16_code
def y_Me_markedBase : MethodName := ⟨R_Me, "markedBase", "(I)I"⟩
abbrev b_Me_markedNumber : ByteArray := prog_2_method_17_code
def y_Me_markedNumber : MethodName := ⟨R_Me, "markedNumber", "(I)I"⟩
abbrev b_Me_sectorOfMark : ByteArray := prog_2_method_18_code
def y_Me_sectorOfMark : MethodName := ⟨R_Me, "sectorOfMark", "(I)I"⟩
abbrev b_Me_takesDefect : ByteArray := prog_2_method_5_code
def y_Me_takesDefect : MethodName := ⟨R_Me, "takesDefect", "(I)Z"⟩
abbrev b_Me_write : ByteArray := prog_2_method_7_code
def y_Me_write : MethodName := ⟨R_Me, "write", "(I[BLWriteOnceDisc$Power;)I"⟩
abbrev b_No_init : ByteArray := prog_3_method_1_code
def y_No_init : MethodName := ⟨R_No, "<init>", "()V"⟩
abbrev b_No_adopt : ByteArray := prog_3_method_6_code
def y_No_adopt : MethodName := ⟨R_No, "adopt", "(LWriteOnceDisc$Node;)V"⟩
abbrev b_No_become : ByteArray := prog_3_method_2_code
def y_No_become : MethodName := ⟨R_No, "become", "(LWriteOnceDisc$Node;ZJ)V"⟩
abbrev b_No_comesBefore : ByteArray := prog_3_method_16_code
def y_No_comesBefore : MethodName := ⟨R_No, "comesBefore", "(LWriteOnceDisc$Node;)Z"⟩
abbrev b_No_contentByte : ByteArray := prog_3_method_7_code
def y_No_contentByte : MethodName := ⟨R_No, "contentByte", "(I)I"⟩
abbrev b_No_depth : ByteArray := prog_3_method_11_code
def y_No_depth : MethodName := ⟨R_No, "depth", "()I"⟩
abbrev b_No_identifierByte : ByteArray := prog_3_method_15_code
def y_No_identifierByte : MethodName := ⟨R_No, "identifierByte", "(I)I"⟩
abbrev b_No_identifierLength : ByteArray := prog_3_method_14_code
def y_No_identifierLength : MethodName := ⟨R_No, "identifierLength", "()I"⟩
abbrev b_No_isWithin : ByteArray := prog_3_method_12_code
def y_No_isWithin : MethodName := ⟨R_No, "isWithin", "(LWriteOnceDisc$Node;)Z"⟩
abbrev b_No_needsSectors : ByteArray := prog_3_method_8_code
def y_No_needsSectors : MethodName := ⟨R_No, "needsSectors", "()Z"⟩
abbrev b_No_overlaps : ByteArray := prog_3_method_13_code
def y_No_overlaps : MethodName := ⟨R_No, "overlaps", "(LWriteOnceDisc$Node;)Z"⟩
abbrev b_No_parentNumber : ByteArray := prog_3_method_10_code
def y_No_parentNumber : MethodName := ⟨R_No, "parentNumber", "()I"⟩
abbrev b_No_settle : ByteArray := prog_3_method_5_code
def y_No_settle : MethodName := ⟨R_No, "settle", "(I)V"⟩
abbrev b_No_sort : ByteArray := prog_3_method_9_code
def y_No_sort : MethodName := ⟨R_No, "sort", "()I"⟩
abbrev b_No_takeContent : ByteArray := prog_3_method_4_code
def y_No_takeContent : MethodName := ⟨R_No, "takeContent", "(II)V"⟩
abbrev b_No_takeName : ByteArray := prog_3_method_3_code
def y_No_takeName : MethodName := ⟨R_No, "takeName", "(J)V"⟩
abbrev b_Ns_init : ByteArray := prog_4_method_1_code
def y_Ns_init : MethodName := ⟨R_Ns, "<init>", "()V"⟩
abbrev b_Ns_adopt : ByteArray := prog_4_method_5_code
def y_Ns_adopt : MethodName := ⟨R_Ns, "adopt", "(LWriteOnceDisc$Nodes;)V"⟩
abbrev b_Ns_append : ByteArray := prog_4_method_3_code
def y_Ns_append : MethodName := ⟨R_Ns, "append", "()LWriteOnceDisc$Node;"⟩
abbrev b_Ns_becomeRootAlone : ByteArray := prog_4_method_2_code
def y_Ns_becomeRootAlone : MethodName := ⟨R_Ns, "becomeRootAlone", "()V"⟩
abbrev b_Ns_directoryOf : ByteArray := prog_4_method_8_code
def y_Ns_directoryOf : MethodName := ⟨R_Ns, "directoryOf", "(I)LWriteOnceDisc$Node;"⟩
abbrev b_Ns_drop : ByteArray := prog_4_method_4_code
def y_Ns_drop : MethodName := ⟨R_Ns, "drop", "(LWriteOnceDisc$Node;)V"⟩
abbrev b_Ns_hasChildren : ByteArray := prog_4_method_10_code
def y_Ns_hasChildren : MethodName := ⟨R_Ns, "hasChildren", "(LWriteOnceDisc$Node;)Z"⟩
abbrev b_Ns_hasOtherNamed : ByteArray := prog_4_method_9_code
def y_Ns_hasOtherNamed : MethodName := ⟨R_Ns, "hasOtherNamed", "(LWriteOnceDisc$Node;JLWriteOnceDisc$Node;)Z"⟩
abbrev b_Ns_levelsOf : ByteArray := prog_4_method_11_code
def y_Ns_levelsOf : MethodName := ⟨R_Ns, "levelsOf", "(LWriteOnceDisc$Node;)I"⟩
abbrev b_Ns_listChildren : ByteArray := prog_4_method_13_code
def y_Ns_listChildren : MethodName := ⟨R_Ns, "listChildren", "(LWriteOnceDisc$Node;I)I"⟩
abbrev b_Ns_nodeOf : ByteArray := prog_4_method_7_code
def y_Ns_nodeOf : MethodName := ⟨R_Ns, "nodeOf", "(I)LWriteOnceDisc$Node;"⟩
abbrev b_Ns_putInOrder : ByteArray := prog_4_method_12_code
def y_Ns_putInOrder : MethodName := ⟨R_Ns, "putInOrder", "()V"⟩
abbrev b_Ns_settle : ByteArray := prog_4_method_6_code
def y_Ns_settle : MethodName := ⟨R_Ns, "settle", "()V"⟩
abbrev b_Pg_init : ByteArray := prog_5_method_1_code
def y_Pg_init : MethodName := ⟨R_Pg, "<init>", "(I)V"⟩
abbrev b_Pg_clear : ByteArray := prog_5_method_2_code
def y_Pg_clear : MethodName := ⟨R_Pg, "clear", "()V"⟩
abbrev b_Pg_fillWithDescriptor : ByteArray := prog_5_method_10_code
def y_Pg_fillWithDescriptor : MethodName := ⟨R_Pg, "fillWithDescriptor", "(LWriteOnceDisc$Medium;IILWriteOnceDisc$Node;)V"⟩
abbrev b_Pg_fillWithDirectory : ByteArray := prog_5_method_11_code
def y_Pg_fillWithDirectory : MethodName := ⟨R_Pg, "fillWithDirectory", "(LWriteOnceDisc$Node;[LWriteOnceDisc$Node;I)V"⟩
abbrev b_Pg_fillWithFile : ByteArray := prog_5_method_12_code
def y_Pg_fillWithFile : MethodName := ⟨R_Pg, "fillWithFile", "(LWriteOnceDisc$Node;ILWriteOnceDisc$Medium;)V"⟩
abbrev b_Pg_fillWithMark : ByteArray := prog_5_method_9_code
def y_Pg_fillWithMark : MethodName := ⟨R_Pg, "fillWithMark", "(II)V"⟩
abbrev b_Pg_fillWithPathTable : ByteArray := prog_5_method_13_code
def y_Pg_fillWithPathTable : MethodName := ⟨R_Pg, "fillWithPathTable", "([LWriteOnceDisc$Node;IZ)I"⟩
abbrev b_Pg_fillWithStandard : ByteArray := prog_5_method_8_code
def y_Pg_fillWithStandard : MethodName := ⟨R_Pg, "fillWithStandard", "(I)V"⟩
abbrev b_Pg_put : ByteArray := prog_5_method_3_code
def y_Pg_put : MethodName := ⟨R_Pg, "put", "(II)V"⟩
abbrev b_Pg_putBoth : ByteArray := prog_5_method_7_code
def y_Pg_putBoth : MethodName := ⟨R_Pg, "putBoth", "(III)V"⟩
abbrev b_Pg_putHigh : ByteArray := prog_5_method_6_code
def y_Pg_putHigh : MethodName := ⟨R_Pg, "putHigh", "(III)V"⟩
abbrev b_Pg_putIdentifier : ByteArray := prog_5_method_16_code
def y_Pg_putIdentifier : MethodName := ⟨R_Pg, "putIdentifier", "(ILWriteOnceDisc$Node;)V"⟩
abbrev b_Pg_putLow : ByteArray := prog_5_method_5_code
def y_Pg_putLow : MethodName := ⟨R_Pg, "putLow", "(III)V"⟩
abbrev b_Pg_putPathEntry : ByteArray := prog_5_method_14_code
def y_Pg_putPathEntry : MethodName := ⟨R_Pg, "putPathEntry", "(ILWriteOnceDisc$Node;Z)I"⟩
abbrev b_Pg_putRecord : ByteArray := prog_5_method_15_code
def y_Pg_putRecord : MethodName := ⟨R_Pg, "putRecord", "(ILWriteOnceDisc$Node;I)I"⟩
abbrev b_Pg_putText : ByteArray := prog_5_method_4_code
def y_Pg_putText : MethodName := ⟨R_Pg, "putText", "(ILjava/lang/String;)V"⟩
abbrev b_Po_init : ByteArray := prog_6_method_1_code
def y_Po_init : MethodName := ⟨R_Po, "<init>", "()V"⟩
abbrev b_Po_comeBack : ByteArray := prog_6_method_3_code
def y_Po_comeBack : MethodName := ⟨R_Po, "comeBack", "()V"⟩
abbrev b_Po_lastsForWrite : ByteArray := prog_6_method_2_code
def y_Po_lastsForWrite : MethodName := ⟨R_Po, "lastsForWrite", "()Z"⟩
abbrev b_Re_init : ByteArray := prog_7_method_1_code
def y_Re_init : MethodName := ⟨R_Re, "<init>", "()V"⟩
abbrev b_Re_beginsAs : ByteArray := prog_7_method_5_code
def y_Re_beginsAs : MethodName := ⟨R_Re, "beginsAs", "(II)Z"⟩
abbrev b_Re_countNodes : ByteArray := prog_7_method_2_code
def y_Re_countNodes : MethodName := ⟨R_Re, "countNodes", "(LWriteOnceDisc$Medium;ILWriteOnceDisc$Nodes;)I"⟩
abbrev b_Re_hasDescriptor : ByteArray := prog_7_method_6_code
def y_Re_hasDescriptor : MethodName := ⟨R_Re, "hasDescriptor", "(I)Z"⟩
abbrev b_Re_hasDirectory : ByteArray := prog_7_method_7_code
def y_Re_hasDirectory : MethodName := ⟨R_Re, "hasDirectory", "(LWriteOnceDisc$Node;)Z"⟩
abbrev b_Re_hasHead : ByteArray := prog_7_method_4_code
def y_Re_hasHead : MethodName := ⟨R_Re, "hasHead", "(I)Z"⟩
abbrev b_Re_hasPathTables : ByteArray := prog_7_method_15_code
def y_Re_hasPathTables : MethodName := ⟨R_Re, "hasPathTables", "(I)Z"⟩
abbrev b_Re_hasSectors : ByteArray := prog_7_method_14_code
def y_Re_hasSectors : MethodName := ⟨R_Re, "hasSectors", "(LWriteOnceDisc$Node;)Z"⟩
abbrev b_Re_hasTable : ByteArray := prog_7_method_16_code
def y_Re_hasTable : MethodName := ⟨R_Re, "hasTable", "(II)Z"⟩
abbrev b_Re_isSpecial : ByteArray := prog_7_method_12_code
def y_Re_isSpecial : MethodName := ⟨R_Re, "isSpecial", "(II)Z"⟩
abbrev b_Re_isToldOnce : ByteArray := prog_7_method_10_code
def y_Re_isToldOnce : MethodName := ⟨R_Re, "isToldOnce", "(LWriteOnceDisc$Node;)Z"⟩
abbrev b_Re_saysDirectory : ByteArray := prog_7_method_8_code
def y_Re_saysDirectory : MethodName := ⟨R_Re, "saysDirectory", "(IILWriteOnceDisc$Node;)Z"⟩
abbrev b_Re_takesIdentifier : ByteArray := prog_7_method_13_code
def y_Re_takesIdentifier : MethodName := ⟨R_Re, "takesIdentifier", "(ILWriteOnceDisc$Node;)Z"⟩
abbrev b_Re_takesNode : ByteArray := prog_7_method_9_code
def y_Re_takesNode : MethodName := ⟨R_Re, "takesNode", "(ILWriteOnceDisc$Node;)Z"⟩
abbrev b_Re_takesRecord : ByteArray := prog_7_method_11_code
def y_Re_takesRecord : MethodName := ⟨R_Re, "takesRecord", "(ILWriteOnceDisc$Node;)Z"⟩
abbrev b_Re_wrongAt : ByteArray := prog_7_method_3_code
def y_Re_wrongAt : MethodName := ⟨R_Re, "wrongAt", "(I)Z"⟩
abbrev b_Se_init : ByteArray := prog_8_method_1_code
def y_Se_init : MethodName := ⟨R_Se, "<init>", "()V"⟩
abbrev b_Se_erase : ByteArray := prog_8_method_3_code
def y_Se_erase : MethodName := ⟨R_Se, "erase", "()V"⟩
abbrev b_Se_take : ByteArray := prog_8_method_2_code
def y_Se_take : MethodName := ⟨R_Se, "take", "([B)V"⟩
abbrev b_Wr_init : ByteArray := prog_9_method_1_code
def y_Wr_init : MethodName := ⟨R_Wr, "<init>", "()V"⟩
abbrev b_Wr_placeDirectories : ByteArray := prog_9_method_7_code
def y_Wr_placeDirectories : MethodName := ⟨R_Wr, "placeDirectories", "(LWriteOnceDisc$Nodes;I)I"⟩
abbrev b_Wr_writeAllFiles : ByteArray := prog_9_method_3_code
def y_Wr_writeAllFiles : MethodName := ⟨R_Wr, "writeAllFiles", "(LWriteOnceDisc$Nodes;LWriteOnceDisc$Medium;LWriteOnceDisc$Medium;)I"⟩
abbrev b_Wr_writeDirectories : ByteArray := prog_9_method_9_code
def y_Wr_writeDirectories : MethodName := ⟨R_Wr, "writeDirectories", "(LWriteOnceDisc$Nodes;LWriteOnceDisc$Medium;)I"⟩
abbrev b_Wr_writeFile : ByteArray := prog_9_method_4_code
def y_Wr_writeFile : MethodName := ⟨R_Wr, "writeFile", "(LWriteOnceDisc$Node;LWriteOnceDisc$Medium;LWriteOnceDisc$Medium;)I"⟩
abbrev b_Wr_writeHead : ByteArray := prog_9_method_8_code
def y_Wr_writeHead : MethodName := ⟨R_Wr, "writeHead", "(LWriteOnceDisc$Nodes;LWriteOnceDisc$Medium;I)I"⟩
abbrev b_Wr_writeMark : ByteArray := prog_9_method_10_code
def y_Wr_writeMark : MethodName := ⟨R_Wr, "writeMark", "(LWriteOnceDisc$Medium;II)I"⟩
abbrev b_Wr_writeNewFiles : ByteArray := prog_9_method_2_code
def y_Wr_writeNewFiles : MethodName := ⟨R_Wr, "writeNewFiles", "(LWriteOnceDisc$Nodes;LWriteOnceDisc$Medium;)I"⟩
abbrev b_Wr_writeParts : ByteArray := prog_9_method_5_code
def y_Wr_writeParts : MethodName := ⟨R_Wr, "writeParts", "(LWriteOnceDisc$Node;ILWriteOnceDisc$Medium;LWriteOnceDisc$Medium;)I"⟩
abbrev b_Wr_writeSession : ByteArray := prog_9_method_6_code
def y_Wr_writeSession : MethodName := ⟨R_Wr, "writeSession", "(LWriteOnceDisc$Nodes;LWriteOnceDisc$Medium;I)I"⟩
abbrev b_La_cell : ByteArray := method_2_code
def y_La_cell : MethodName := ⟨R_La, "cell", "([II)I"⟩
abbrev b_La_mark : ByteArray := method_3_code
def y_La_mark : MethodName := ⟨R_La, "mark", "(LWriteOnceDisc;II[J)I"⟩
abbrev b_La_name : ByteArray := method_5_code
def y_La_name : MethodName := ⟨R_La, "name", "(LWriteOnceDisc;I[J)I"⟩
abbrev b_La_node : ByteArray := method_4_code
def y_La_node : MethodName := ⟨R_La, "node", "(LWriteOnceDisc;II[J)I"⟩
abbrev b_La_read : ByteArray := method_6_code
def y_La_read : MethodName := ⟨R_La, "read", "(LWriteOnceDisc;II[J)I"⟩
abbrev b_La_tree : ByteArray := method_7_code
def y_La_tree : MethodName := ⟨R_La, "tree", "(LWriteOnceDisc;II[J)I"⟩
abbrev b_Mo_init : ByteArray := prog_11_method_1_code
def y_Mo_init : MethodName := ⟨R_Mo, "<init>", "(I)V"⟩
abbrev b_Mo_add : ByteArray := prog_11_method_17_code
def y_Mo_add : MethodName := ⟨R_Mo, "add", "(IJZIIZ)I"⟩
abbrev b_Mo_alive : ByteArray := prog_11_method_16_code
def y_Mo_alive : MethodName := ⟨R_Mo, "alive", "()I"⟩
abbrev b_Mo_along : ByteArray := prog_11_method_38_code
def y_Mo_along : MethodName := ⟨R_Mo, "along", "(IIZ)I"⟩
abbrev b_Mo_areWritten : ByteArray := prog_11_method_53_code
def y_Mo_areWritten : MethodName := ⟨R_Mo, "areWritten", "(IJ)Z"⟩
abbrev b_Mo_begin : ByteArray := prog_11_method_56_code
def y_Mo_begin : MethodName := ⟨R_Mo, "begin", "(IIIZ)V"⟩
abbrev b_Mo_begins : ByteArray := prog_11_method_52_code
def y_Mo_begins : MethodName := ⟨R_Mo, "begins", "(II)Z"⟩
abbrev b_Mo_both : ByteArray := prog_11_method_34_code
def y_Mo_both : MethodName := ⟨R_Mo, "both", "(III)V"⟩
abbrev b_Mo_burn : ByteArray := prog_11_method_8_code
def y_Mo_burn : MethodName := ⟨R_Mo, "burn", "(II)I"⟩
abbrev b_Mo_byteAt : ByteArray := prog_11_method_72_code
def y_Mo_byteAt : MethodName := ⟨R_Mo, "byteAt", "(I)I"⟩
abbrev b_Mo_commit : ByteArray := prog_11_method_47_code
def y_Mo_commit : MethodName := ⟨R_Mo, "commit", "()I"⟩
abbrev b_Mo_compact : ByteArray := prog_11_method_48_code
def y_Mo_compact : MethodName := ⟨R_Mo, "compact", "()I"⟩
abbrev b_Mo_compare : ByteArray := prog_11_method_30_code
def y_Mo_compare : MethodName := ⟨R_Mo, "compare", "(JZJZ)I"⟩
abbrev b_Mo_defect : ByteArray := prog_11_method_9_code
def y_Mo_defect : MethodName := ⟨R_Mo, "defect", "(I)Z"⟩
abbrev b_Mo_depthOf : ByteArray := prog_11_method_15_code
def y_Mo_depthOf : MethodName := ⟨R_Mo, "depthOf", "(I)I"⟩
abbrev b_Mo_design : ByteArray := prog_11_method_43_code
def y_Mo_design : MethodName := ⟨R_Mo, "design", "(III)V"⟩
abbrev b_Mo_directory : ByteArray := prog_11_method_18_code
def y_Mo_directory : MethodName := ⟨R_Mo, "directory", "(IJ)I"⟩
abbrev b_Mo_discover : ByteArray := prog_11_method_66_code
def y_Mo_discover : MethodName := ⟨R_Mo, "discover", "()I"⟩
abbrev b_Mo_even : ByteArray := prog_11_method_35_code
def y_Mo_even : MethodName := ⟨R_Mo, "even", "(I)I"⟩
abbrev b_Mo_expect : ByteArray := prog_11_method_61_code
def y_Mo_expect : MethodName := ⟨R_Mo, "expect", "(II)I"⟩
abbrev b_Mo_file : ByteArray := prog_11_method_20_code
def y_Mo_file : MethodName := ⟨R_Mo, "file", "(IJII)I"⟩
abbrev b_Mo_fill : ByteArray := prog_11_method_44_code
def y_Mo_fill : MethodName := ⟨R_Mo, "fill", "(IIZ)V"⟩
abbrev b_Mo_frontOf : ByteArray := prog_11_method_7_code
def y_Mo_frontOf : MethodName := ⟨R_Mo, "frontOf", "(I)I"⟩
abbrev b_Mo_get : ByteArray := prog_11_method_5_code
def y_Mo_get : MethodName := ⟨R_Mo, "get", "(I)I"⟩
abbrev b_Mo_high : ByteArray := prog_11_method_33_code
def y_Mo_high : MethodName := ⟨R_Mo, "high", "(III)V"⟩
abbrev b_Mo_highAt : ByteArray := prog_11_method_50_code
def y_Mo_highAt : MethodName := ⟨R_Mo, "highAt", "(II)I"⟩
abbrev b_Mo_idByte : ByteArray := prog_11_method_29_code
def y_Mo_idByte : MethodName := ⟨R_Mo, "idByte", "(JZI)I"⟩
abbrev b_Mo_idSize : ByteArray := prog_11_method_28_code
def y_Mo_idSize : MethodName := ⟨R_Mo, "idSize", "(JZ)I"⟩
abbrev b_Mo_in : ByteArray := prog_11_method_4_code
def y_Mo_in : MethodName := ⟨R_Mo, "in", "(III)Z"⟩
abbrev b_Mo_isContent : ByteArray := prog_11_method_19_code
def y_Mo_isContent : MethodName := ⟨R_Mo, "isContent", "(II)Z"⟩
abbrev b_Mo_isGone : ByteArray := prog_11_method_59_code
def y_Mo_isGone : MethodName := ⟨R_Mo, "isGone", "(I)Z"⟩
abbrev b_Mo_isLetter : ByteArray := prog_11_method_12_code
def y_Mo_isLetter : MethodName := ⟨R_Mo, "isLetter", "(I)Z"⟩
abbrev b_Mo_isMark : ByteArray := prog_11_method_63_code
def y_Mo_isMark : MethodName := ⟨R_Mo, "isMark", "(I)Z"⟩
abbrev b_Mo_isName : ByteArray := prog_11_method_54_code
def y_Mo_isName : MethodName := ⟨R_Mo, "isName", "(II)Z"⟩
abbrev b_Mo_isNew : ByteArray := prog_11_method_60_code
def y_Mo_isNew : MethodName := ⟨R_Mo, "isNew", "(III)Z"⟩
abbrev b_Mo_isNode : ByteArray := prog_11_method_11_code
def y_Mo_isNode : MethodName := ⟨R_Mo, "isNode", "(I)Z"⟩
abbrev b_Mo_isRead : ByteArray := prog_11_method_58_code
def y_Mo_isRead : MethodName := ⟨R_Mo, "isRead", "(I)Z"⟩
abbrev b_Mo_isRecord : ByteArray := prog_11_method_55_code
def y_Mo_isRecord : MethodName := ⟨R_Mo, "isRecord", "(II)Z"⟩
abbrev b_Mo_isWrittenSector : ByteArray := prog_11_method_6_code
def y_Mo_isWrittenSector : MethodName := ⟨R_Mo, "isWrittenSector", "(I)Z"⟩
abbrev b_Mo_lay : ByteArray := prog_11_method_45_code
def y_Mo_lay : MethodName := ⟨R_Mo, "lay", "(IIZ)I"⟩
abbrev b_Mo_letter : ByteArray := prog_11_method_27_code
def y_Mo_letter : MethodName := ⟨R_Mo, "letter", "(JI)I"⟩
abbrev b_Mo_letters : ByteArray := prog_11_method_41_code
def y_Mo_letters : MethodName := ⟨R_Mo, "letters", "(IIIIII)V"⟩
abbrev b_Mo_lettersOf : ByteArray := prog_11_method_26_code
def y_Mo_lettersOf : MethodName := ⟨R_Mo, "lettersOf", "(J)I"⟩
abbrev b_Mo_liesIn : ByteArray := prog_11_method_23_code
def y_Mo_liesIn : MethodName := ⟨R_Mo, "liesIn", "(II)Z"⟩
abbrev b_Mo_look : ByteArray := prog_11_method_57_code
def y_Mo_look : MethodName := ⟨R_Mo, "look", "(I)I"⟩
abbrev b_Mo_low : ByteArray := prog_11_method_32_code
def y_Mo_low : MethodName := ⟨R_Mo, "low", "(III)V"⟩
abbrev b_Mo_lowAt : ByteArray := prog_11_method_49_code
def y_Mo_lowAt : MethodName := ⟨R_Mo, "lowAt", "(II)I"⟩
abbrev b_Mo_mark : ByteArray := prog_11_method_65_code
def y_Mo_mark : MethodName := ⟨R_Mo, "mark", "(II)I"⟩
abbrev b_Mo_markAt : ByteArray := prog_11_method_64_code
def y_Mo_markAt : MethodName := ⟨R_Mo, "markAt", "(I)I"⟩
abbrev b_Mo_measure : ByteArray := prog_11_method_42_code
def y_Mo_measure : MethodName := ⟨R_Mo, "measure", "(I)I"⟩
abbrev b_Mo_name : ByteArray := prog_11_method_69_code
def y_Mo_name : MethodName := ⟨R_Mo, "name", "(I)J"⟩
abbrev b_Mo_namedIn : ByteArray := prog_11_method_14_code
def y_Mo_namedIn : MethodName := ⟨R_Mo, "namedIn", "(IJ)I"⟩
abbrev b_Mo_next : ByteArray := prog_11_method_31_code
def y_Mo_next : MethodName := ⟨R_Mo, "next", "(II)I"⟩
abbrev b_Mo_no : ByteArray := prog_11_method_51_code
def y_Mo_no : MethodName := ⟨R_Mo, "no", "(I)Z"⟩
abbrev b_Mo_node : ByteArray := prog_11_method_68_code
def y_Mo_node : MethodName := ⟨R_Mo, "node", "(II)I"⟩
abbrev b_Mo_numberOf : ByteArray := prog_11_method_40_code
def y_Mo_numberOf : MethodName := ⟨R_Mo, "numberOf", "(I)I"⟩
abbrev b_Mo_open : ByteArray := prog_11_method_67_code
def y_Mo_open : MethodName := ⟨R_Mo, "open", "(I)I"⟩
abbrev b_Mo_power : ByteArray := prog_11_method_10_code
def y_Mo_power : MethodName := ⟨R_Mo, "power", "(I)V"⟩
abbrev b_Mo_read : ByteArray := prog_11_method_70_code
def y_Mo_read : MethodName := ⟨R_Mo, "read", "(II)I"⟩
abbrev b_Mo_record : ByteArray := prog_11_method_37_code
def y_Mo_record : MethodName := ⟨R_Mo, "record", "(III)V"⟩
abbrev b_Mo_recordId : ByteArray := prog_11_method_36_code
def y_Mo_recordId : MethodName := ⟨R_Mo, "recordId", "(II)I"⟩
abbrev b_Mo_remove : ByteArray := prog_11_method_22_code
def y_Mo_remove : MethodName := ⟨R_Mo, "remove", "(I)I"⟩
abbrev b_Mo_rename : ByteArray := prog_11_method_24_code
def y_Mo_rename : MethodName := ⟨R_Mo, "rename", "(IIJ)I"⟩
abbrev b_Mo_replace : ByteArray := prog_11_method_21_code
def y_Mo_replace : MethodName := ⟨R_Mo, "replace", "(III)I"⟩
abbrev b_Mo_rootAlone : ByteArray := prog_11_method_3_code
def y_Mo_rootAlone : MethodName := ⟨R_Mo, "rootAlone", "()V"⟩
abbrev b_Mo_session : ByteArray := prog_11_method_46_code
def y_Mo_session : MethodName := ⟨R_Mo, "session", "(II)I"⟩
abbrev b_Mo_spoil : ByteArray := prog_11_method_73_code
def y_Mo_spoil : MethodName := ⟨R_Mo, "spoil", "(II)I"⟩
abbrev b_Mo_state : ByteArray := prog_11_method_71_code
def y_Mo_state : MethodName := ⟨R_Mo, "state", "(I)I"⟩
abbrev b_Mo_tableIs : ByteArray := prog_11_method_62_code
def y_Mo_tableIs : MethodName := ⟨R_Mo, "tableIs", "(I)I"⟩
abbrev b_Mo_tables : ByteArray := prog_11_method_39_code
def y_Mo_tables : MethodName := ⟨R_Mo, "tables", "()V"⟩
abbrev b_Mo_thrown : ByteArray := prog_11_method_2_code
def y_Mo_thrown : MethodName := ⟨R_Mo, "thrown", "()I"⟩
abbrev b_Mo_told : ByteArray := prog_11_method_13_code
def y_Mo_told : MethodName := ⟨R_Mo, "told", "(J)J"⟩
abbrev b_Mo_tree : ByteArray := prog_11_method_25_code
def y_Mo_tree : MethodName := ⟨R_Mo, "tree", "(II)I"⟩
abbrev b_Mo_writes : ByteArray := prog_11_method_74_code
def y_Mo_writes : MethodName := ⟨R_Mo, "writes", "()I"⟩
abbrev b_St_charAt : ByteArray := prog_15_method_56_code
def y_St_charAt : MethodName := ⟨R_St, "charAt", "(I)C"⟩
abbrev b_St_checkIndex : ByteArray := prog_15_method_155_code
def y_St_checkIndex : MethodName := ⟨R_St, "checkIndex", "(II)V"⟩
abbrev b_St_coder : ByteArray := prog_15_method_152_code
def y_St_coder : MethodName := ⟨R_St, "coder", "()B"⟩
abbrev b_St_isLatin1 : ByteArray := prog_15_method_154_code
def y_St_isLatin1 : MethodName := ⟨R_St, "isLatin1", "()Z"⟩
abbrev b_St_length : ByteArray := prog_15_method_54_code
def y_St_length : MethodName := ⟨R_St, "length", "()I"⟩
abbrev b_S1_charAt : ByteArray := prog_16_method_2_code
def y_S1_charAt : MethodName := ⟨R_S1, "charAt", "([BI)C"⟩
abbrev b_Ar_fill : ByteArray := prog_20_method_109_code
def y_Ar_fill : MethodName := ⟨R_Ar, "fill", "([BB)V"⟩
abbrev b_Pr_checkIndex : ByteArray := prog_22_method_11_code
def y_Pr_checkIndex : MethodName := ⟨R_Pr, "checkIndex", "(IILjava/util/function/BiFunction;)I"⟩
abbrev b_La_law : ByteArray := code
end
section
/-! MY OWN ROWS: the heap as a function. 'hm D cl G h H': at each address a with h a = some e the heap H has the cell e; all these addresses lie behind the old heap G, which is as it was. A write changes h at one address ('hu'); no list, no places, no frame rule: a contract speaks of every h. -/
abbrev hM : Type := Nat → Option va_E
def hu (h : hM) (a : Nat) (e : va_E) : hM := fun q => if q = a then some e else h q
theorem hu_s (h : hM) (a : Nat) (e : va_E) : hu h a e a = some e := if_pos rfl
theorem hu_n {h : hM} {a b : Nat} {e : va_E} (n : b ≠ a) : hu h a e b = h b := if_neg n
def hm (D : va_G) (cl : List vw_C) (G : Heap) (h : hM) (H : Heap) : Prop := (G.size ≤ H.size ∧ ∀ q : Nat, q < G.size → H[q]? = G[q]?) ∧ ∀ (a : Nat) (e : va_E), h a = some e → G.size ≤ a ∧ va_at D cl (a, e) H
def hLc (B : Nat) (locs : List Loc) : Prop := ∀ q ∈ locs, B ≤ q.base
theorem hLc_nil {B : Nat} : hLc B [] := fun _ h => by cases h
theorem hLc_put {B a k : Nat} {locs : List Loc} (h : hLc B locs) (ha : B ≤ a) : hLc B (locs ++ [⟨a, k⟩]) := by
  intro q hq
  rcases List.mem_append.mp hq with h1 | h1
  · exact h q h1
  · rw [List.mem_singleton.mp h1]
    exact ha
theorem hLc_app {B : Nat} {locs L : List Loc} (h : hLc B locs) (h2 : ∀ q ∈ L, B ≤ q.base) : hLc B (locs ++ L) := by
  intro q hq
  rcases List.mem_append.mp hq with h1 | h1
  · exact h q h1
  · exact h2 q h1
theorem hm.at {D : va_G} {cl : List vw_C} {G : Heap} {h : hM} {H : Heap} {a : Nat} {e : va_E} (hH : hm D cl G h H) (ha : h a = some e) : va_at D cl (a, e) H := (hH.2 a e ha).2
theorem hm.one {D : va_G} {cl : List vw_C} {G : Heap} {h : hM} {H : Heap} {a : Nat} {e : va_E} (hH : hm D cl G h H) (ha : h a = some e) : va_P D cl [(a, e)] H := by
  intro k q hk
  cases k with
  | zero => cases hk; exact hH.at ha
  | succ k => cases hk
theorem hm.lt {D : va_G} {cl : List vw_C} {G : Heap} {h : hM} {H : Heap} {a : Nat} {e : va_E} (hH : hm D cl G h H) (ha : h a = some e) : a < H.size := (hH.at ha).lt
theorem hm.ge {D : va_G} {cl : List vw_C} {G : Heap} {h : hM} {H : Heap} {a : Nat} {e : va_E} (hH : hm D cl G h H) (ha : h a = some e) : G.size ≤ a := (hH.2 a e ha).1
theorem hm.fresh {D : va_G} {cl : List vw_C} {G : Heap} {h : hM} {H : Heap} {a : Nat} {e : va_E} (hH : hm D cl G h H) (ha : h a = some e) : a ≠ H.size := Nat.ne_of_lt (hH.lt ha)
theorem hm.set {D : va_G} {cl : List vw_C} {G : Heap} {h : hM} {H H1 : Heap} {a : Nat} {e : va_E} (hH : hm D cl G h H) (hB : G.size ≤ a) (he : va_at D cl (a, e) H1) (z : H1.size = H.size) (oq : ∀ q : Nat, q ≠ a → H1[q]? = H[q]?) : hm D cl G (hu h a e) H1 := by
  refine ⟨⟨by rw [z]; exact hH.1.1, fun q hq => by rw [oq q (fun z9 => by rw [z9] at hq; exact absurd hB (Nat.not_le.mpr hq))]; exact hH.1.2 q hq⟩, fun b f hb => ?_⟩
  by_cases hba : b = a
  · subst hba
    rw [hu_s] at hb
    cases hb
    exact ⟨hB, he⟩
  · rw [hu_n hba] at hb
    exact ⟨(hH.2 b f hb).1, (hH.2 b f hb).2.kept (oq b hba)⟩
theorem hm.push {D : va_G} {cl : List vw_C} {G : Heap} {h : hM} {H H1 : Heap} {e : va_E} (hH : hm D cl G h H) (he : va_at D cl (H.size, e) H1) (z : H1.size = H.size + 1) (oq : ∀ q : Nat, q < H.size → H1[q]? = H[q]?) : hm D cl G (hu h H.size e) H1 := by
  refine ⟨⟨by rw [z]; exact Nat.le_succ_of_le hH.1.1, fun q hq => by rw [oq q (Nat.lt_of_lt_of_le hq hH.1.1)]; exact hH.1.2 q hq⟩, fun b f hb => ?_⟩
  by_cases hba : b = H.size
  · subst hba
    rw [hu_s] at hb
    cases hb
    exact ⟨hH.1.1, he⟩
  · rw [hu_n hba] at hb
    exact ⟨(hH.2 b f hb).1, (hH.2 b f hb).2.kept (oq b (hH.lt hb))⟩
theorem hm.sub {D : va_G} {cl : List vw_C} {G : Heap} {h h' : hM} {H : Heap} (hH : hm D cl G h H) (hs : ∀ (a : Nat) (e : va_E), h' a = some e → h a = some e) : hm D cl G h' H := ⟨hH.1, fun a e ha => hH.2 a e (hs a e ha)⟩
/-- cells of unlike sorts lie apart -/
theorem h_ne {h : hM} {a b : Nat} {e f : va_E} (ha : h a = some e) (hb : h b = some f) (n : e ≠ f) : a ≠ b := fun q => n (by rw [q, hb] at ha; exact (Option.some.inj ha).symm)
theorem h_neC {h : hM} {a b c1 c2 : Nat} {f1 f2 : List Value} (ha : h a = some (.inr (c1, f1))) (hb : h b = some (.inr (c2, f2))) (n : c1 ≠ c2) : a ≠ b := h_ne ha hb (fun q => n (congrArg Prod.fst (Sum.inr.inj q)))
theorem h_neA {h : hM} {a b c2 : Nat} {x : ClassId × vp_A} {f2 : List Value} (ha : h a = some (.inl x)) (hb : h b = some (.inr (c2, f2))) : a ≠ b := h_ne ha hb (fun q => by cases q)
section HMW
variable {p : Program} {l : Launch} {e : Env} {R : Room} {s : State} {m : MethodId} {args : Array Value} {below : List Frame} {meth : Method} {c : Code} {H : Heap} {locs : List Loc} {cells slots : Nat} {Q : State → Prop}
variable {cc : ByteArray} {pc : Nat} {ls : Array Slot} {rest : List Value} {D : va_G} {cl : List vw_C} {a : Nat} {tys : List (ClassId × FieldType)} {G : Heap} {h : hM}
theorem hm_get (hexec : p.tables.exec = Jvm.exec) (hb : c.code = cc) {own ref C : String} {T : u_T} {N ci index : Nat} {Ts : List Cond} (hts : ∀ w ∈ Ts, w.before args s = true) (hin : ∀ w ∈ u_ws C T N, w ∈ Ts) (hown : s.vm.findClass own = some m.cls) (hK : va_K D cl tys s) (hH : hm D cl G h H) {fs : List Value} (he : h a = some (.inr (ci, fs))) (hc : cl[ci]? = some (C, T, N)) (k : Nat) (hk : k < N) (hlink : (Cond.fieldLink own index ref (T k).2.1 (T k).2.2.1).before args s = true) (hsame : ∀ x, s.fieldFound? (T k).1 (T k).2.1 (T k).2.2.1 = some x → s.fieldFound? ref (T k).2.1 (T k).2.2.1 = some x) {v : Value} (hv : fs[k]? = some v) (hdg : decode cc pc = .ok (.getfield index, 3))
    (kk : W p l e R s m args below meth c H locs cells slots Q (F0 m (pc + 3) ls (v :: rest))) : W p l e R s m args below meth c H locs cells slots Q (F0 m pc ls (.ref a :: rest)) :=
  va_get hexec hb hts hin hown hK (hH.one he) 0 rfl hc k hk hlink hsame hv hdg kk
theorem hm_getN (hexec : p.tables.exec = Jvm.exec) (hb : c.code = cc) {own ref C host : String} {T : u_T} {N ci index : Nat} {Ts : List Cond} (hts : ∀ w ∈ Ts, w.before args s = true) (hin : ∀ w ∈ u_ws C T N, w ∈ Ts) (hown : s.vm.findClass own = some m.cls) (hK : va_K D cl tys s) (hH : hm D cl G h H) {fs : List Value} (he : h a = some (.inr (ci, fs))) (hc : cl[ci]? = some (C, T, N)) (k : Nat) (hk : k < N) (hlink : (Cond.fieldLinkNest own index ref (T k).2.1 (T k).2.2.1 host).before args s = true) (hsame : ∀ x, s.fieldFound? (T k).1 (T k).2.1 (T k).2.2.1 = some x → s.fieldFound? ref (T k).2.1 (T k).2.2.1 = some x) {v : Value} (hv : fs[k]? = some v) (hdg : decode cc pc = .ok (.getfield index, 3))
    (kk : W p l e R s m args below meth c H locs cells slots Q (F0 m (pc + 3) ls (v :: rest))) : W p l e R s m args below meth c H locs cells slots Q (F0 m pc ls (.ref a :: rest)) :=
  va_getN hexec hb hts hin hown hK (hH.one he) 0 rfl hc k hk hlink hsame hv hdg kk
theorem hm_put (hexec : p.tables.exec = Jvm.exec) (hb : c.code = cc) {own ref C : String} {T : u_T} {N ci index : Nat} {Ts : List Cond} (hts : ∀ w ∈ Ts, w.before args s = true) (hin : ∀ w ∈ u_ws C T N, w ∈ Ts) (ty0 : Nat → FieldType) (hty : ∀ k, k < N → parseFieldDescriptor (T k).2.2.1 = some (ty0 k)) (hnm : ∀ a, a < N → ∀ b, b < N → a ≠ b → (T a).2.1 ≠ (T b).2.1) (hown : s.vm.findClass own = some m.cls) (hK : va_K D cl tys s) (hH : hm D cl G h H) (hLo : hLc G.size locs) {fs : List Value} (he : h a = some (.inr (ci, fs))) (hc : cl[ci]? = some (C, T, N)) (k : Nat) (hk : k < N) (hlink : (Cond.fieldLink own index ref (T k).2.1 (T k).2.2.1).before args s = true) (hsame : ∀ x, s.fieldFound? (T k).1 (T k).2.1 (T k).2.2.1 = some x → s.fieldFound? ref (T k).2.1 (T k).2.2.1 = some x) (hfin : (T k).2.2.2 = false) {ty : FieldType} {v : Value} (hd : parseFieldDescriptor (T k).2.2.1 = some ty) (hn : narrow ty v = v) (hfit : fits ty v = true) (hl : k < fs.length)
    (hdg : decode cc pc = .ok (.putfield index, 3)) (kk : ∀ (H1 : Heap) (locs1 : List Loc), hm D cl G (hu h a (.inr (ci, fs.set k v))) H1 → H1.size = H.size → hLc G.size locs1 → W p l e R s m args below meth c H1 locs1 cells slots Q (F0 m (pc + 3) ls rest)) : W p l e R s m args below meth c H locs cells slots Q (F0 m pc ls (v :: .ref a :: rest)) := by
  have hap := va_apart (own := own) hts hin ty0 hty hnm hK hc
  obtain ⟨r, h1, cell, q1, q2, q3, q4⟩ := hH.at he
  have hr : r = (C, T, N) := Option.some.inj (h1.symm.trans hc)
  subst hr
  obtain ⟨hS, hfc, kC, hkC, hkind⟩ := hK.1 ci _ hc
  obtain ⟨cf, kf, fi, f, hi, hsl⟩ := hS k hk
  have hlay := hts _ (hin _ (u_in_lay hk))
  unfold u_lay at hlay
  rw [if_neg (by rw [hfin]; decide)] at hlay
  have hst := (u_facts hfc hkC (u_lays hts hin hk) hi).1
  have h6 := u_store hfc hkC hkind hlay hi hd hn hfit
  refine W.putK hexec hb (f := f) ⟨hown, hlink, ⟨_, _, _, hsame _ hi⟩, hst⟩ (by rw [q2]; exact h6) q1 q3 (by rw [hsl]; exact k2_hasslot (q4 k hk)) rfl rfl hdg fun H' e1 e2 e3 => ?_
  rw [hsl] at e1 ⊢
  exact kk H' _ (hH.set (hH.ge he) ⟨_, hc, t_OB.to (V := updV (vp_V fs) k v) ⟨_, e1, q2, q3, t_set q4 hap hk v⟩ (fun j _ => vp_updV_set hl v j)⟩ e2 e3) e2 (hLc_put hLo (hH.ge he))
theorem hm_putN (hexec : p.tables.exec = Jvm.exec) (hb : c.code = cc) {own ref C host : String} {T : u_T} {N ci index : Nat} {Ts : List Cond} (hts : ∀ w ∈ Ts, w.before args s = true) (hin : ∀ w ∈ u_ws C T N, w ∈ Ts) (ty0 : Nat → FieldType) (hty : ∀ k, k < N → parseFieldDescriptor (T k).2.2.1 = some (ty0 k)) (hnm : ∀ a, a < N → ∀ b, b < N → a ≠ b → (T a).2.1 ≠ (T b).2.1) (hown : s.vm.findClass own = some m.cls) (hK : va_K D cl tys s) (hH : hm D cl G h H) (hLo : hLc G.size locs) {fs : List Value} (he : h a = some (.inr (ci, fs))) (hc : cl[ci]? = some (C, T, N)) (k : Nat) (hk : k < N) (hlink : (Cond.fieldLinkNest own index ref (T k).2.1 (T k).2.2.1 host).before args s = true) (hsame : ∀ x, s.fieldFound? (T k).1 (T k).2.1 (T k).2.2.1 = some x → s.fieldFound? ref (T k).2.1 (T k).2.2.1 = some x) (hfin : (T k).2.2.2 = false) {ty : FieldType} {v : Value} (hd : parseFieldDescriptor (T k).2.2.1 = some ty) (hn : narrow ty v = v) (hfit : fits ty v = true) (hl : k < fs.length)
    (hdg : decode cc pc = .ok (.putfield index, 3)) (kk : ∀ (H1 : Heap) (locs1 : List Loc), hm D cl G (hu h a (.inr (ci, fs.set k v))) H1 → H1.size = H.size → hLc G.size locs1 → W p l e R s m args below meth c H1 locs1 cells slots Q (F0 m (pc + 3) ls rest)) : W p l e R s m args below meth c H locs cells slots Q (F0 m pc ls (v :: .ref a :: rest)) := by
  have hap := va_apart (own := own) hts hin ty0 hty hnm hK hc
  obtain ⟨r, h1, cell, q1, q2, q3, q4⟩ := hH.at he
  have hr : r = (C, T, N) := Option.some.inj (h1.symm.trans hc)
  subst hr
  obtain ⟨hS, hfc, kC, hkC, hkind⟩ := hK.1 ci _ hc
  obtain ⟨cf, kf, fi, f, hi, hsl⟩ := hS k hk
  have hlay := hts _ (hin _ (u_in_lay hk))
  unfold u_lay at hlay
  rw [if_neg (by rw [hfin]; decide)] at hlay
  have hst := (u_facts hfc hkC (u_lays hts hin hk) hi).1
  have h6 := u_store hfc hkC hkind hlay hi hd hn hfit
  refine va_WputK hexec hb (f := f) hown hlink (hsame _ hi) hst (by rw [q2]; exact h6) q1 q3 (by rw [hsl]; exact k2_hasslot (q4 k hk)) rfl rfl hdg fun H' e1 e2 e3 => ?_
  rw [hsl] at e1 ⊢
  exact kk H' _ (hH.set (hH.ge he) ⟨_, hc, t_OB.to (V := updV (vp_V fs) k v) ⟨_, e1, q2, q3, t_set q4 hap hk v⟩ (fun j _ => vp_updV_set hl v j)⟩ e2 e3) e2 (hLc_put hLo (hH.ge he))
theorem hm_putF (hexec : p.tables.exec = Jvm.exec) (hb : c.code = cc) {own ref C : String} {T : u_T} {N ci index : Nat} {Ts : List Cond} (hts : ∀ w ∈ Ts, w.before args s = true) (hin : ∀ w ∈ u_ws C T N, w ∈ Ts) (ty0 : Nat → FieldType) (hty : ∀ k, k < N → parseFieldDescriptor (T k).2.2.1 = some (ty0 k)) (hnm : ∀ a, a < N → ∀ b, b < N → a ≠ b → (T a).2.1 ≠ (T b).2.1) (hown : s.vm.findClass own = some m.cls) (hK : va_K D cl tys s) (hH : hm D cl G h H) (hLo : hLc G.size locs) {fs : List Value} (he : h a = some (.inr (ci, fs))) (hc : cl[ci]? = some (C, T, N)) (k : Nat) (hk : k < N) (hlink : (Cond.fieldLink own index ref (T k).2.1 (T k).2.2.1).before args s = true) (hsame : ∀ x, s.fieldFound? (T k).1 (T k).2.1 (T k).2.2.1 = some x → s.fieldFound? ref (T k).2.1 (T k).2.2.1 = some x) (hfin : (T k).2.2.2 = true) (hin2 : meth.name = "<init>") (hdecl : (T k).1 = own) {ty : FieldType} {v : Value} (hd : parseFieldDescriptor (T k).2.2.1 = some ty) (hn : narrow ty v = v) (hfit : fits ty v = true) (hl : k < fs.length)
    (hdg : decode cc pc = .ok (.putfield index, 3)) (kk : ∀ (H1 : Heap) (locs1 : List Loc), hm D cl G (hu h a (.inr (ci, fs.set k v))) H1 → H1.size = H.size → hLc G.size locs1 → W p l e R s m args below meth c H1 locs1 cells slots Q (F0 m (pc + 3) ls rest)) : W p l e R s m args below meth c H locs cells slots Q (F0 m pc ls (v :: .ref a :: rest)) := by
  have hap := va_apart (own := own) hts hin ty0 hty hnm hK hc
  obtain ⟨r, h1, cell, q1, q2, q3, q4⟩ := hH.at he
  have hr : r = (C, T, N) := Option.some.inj (h1.symm.trans hc)
  subst hr
  obtain ⟨hS, hfc, kC, hkC, hkind⟩ := hK.1 ci _ hc
  obtain ⟨cf, kf, fi, f, hi, hsl⟩ := hS k hk
  have hlay := hts _ (hin _ (u_in_lay hk))
  unfold u_lay at hlay
  rw [if_pos hfin] at hlay
  have hst := (u_facts hfc hkC (u_lays hts hin hk) hi).1
  have hcf : m.cls = cf := by
    obtain ⟨_, _, c', _, _, _, -, -, hf', -, -, -, hown2, -⟩ := Cond.laysFinal_spec hlay
    have e1 : c' = cf := by have := hi.symm.trans hf'; simp at this; exact this.1.symm
    rw [hdecl] at hown2
    rw [← e1]; exact Option.some.inj (hown.symm.trans hown2)
  have h6 := u_fits hfc hkC hkind (Or.inr hlay) hi hd hn hfit
  refine W.putFinK hexec hb hown hlink (hsame _ hi) hst hcf hin2 (by rw [q2]; exact h6) q1 q3 (by rw [hsl]; exact k2_hasslot (q4 k hk)) rfl rfl hdg fun H' e1 e2 e3 => ?_
  rw [hsl] at e1 ⊢
  exact kk H' _ (hH.set (hH.ge he) ⟨_, hc, t_OB.to (V := updV (vp_V fs) k v) ⟨_, e1, q2, q3, t_set q4 hap hk v⟩ (fun j _ => vp_updV_set hl v j)⟩ e2 e3) e2 (hLc_put hLo (hH.ge he))
/-! arrays -/
theorem hm_bald (hexec : p.tables.exec = Jvm.exec) (hb : c.code = cc) (hK : va_K D cl tys s) (hH : hm D cl G h H) (t0 : Nat) {cA : ClassId} {n : Nat} {f : Nat → Int32} (ha : h a = some (.inl (cA, n, .inl f))) (ht : tys[t0]? = some (cA, .byte)) {i : Int32} (hin : vp_in i n) (hdg : decode cc pc = .ok (.baload, 1))
    (kk : W p l e R s m args below meth c H locs cells slots Q (F0 m (pc + 1) ls (.int (f i.toNatClampNeg) :: rest))) : W p l e R s m args below meth c H locs cells slots Q (F0 m pc ls (.int i :: .ref a :: rest)) := va_bald hexec hb hK (hH.one ha) 0 t0 rfl ht hin hdg kk
theorem hm_zald (hexec : p.tables.exec = Jvm.exec) (hb : c.code = cc) (hK : va_K D cl tys s) (hH : hm D cl G h H) (t0 : Nat) {cA : ClassId} {n : Nat} {f : Nat → Int32} (ha : h a = some (.inl (cA, n, .inl f))) (ht : tys[t0]? = some (cA, .boolean)) {i : Int32} (hin : vp_in i n) (hdg : decode cc pc = .ok (.baload, 1))
    (kk : W p l e R s m args below meth c H locs cells slots Q (F0 m (pc + 1) ls (.int (f i.toNatClampNeg) :: rest))) : W p l e R s m args below meth c H locs cells slots Q (F0 m pc ls (.int i :: .ref a :: rest)) := va_zald hexec hb hK (hH.one ha) 0 t0 rfl ht hin hdg kk
theorem hm_iald (hexec : p.tables.exec = Jvm.exec) (hb : c.code = cc) (hK : va_K D cl tys s) (hH : hm D cl G h H) (t0 : Nat) {cA : ClassId} {n : Nat} {f : Nat → Int32} (ha : h a = some (.inl (cA, n, .inl f))) (ht : tys[t0]? = some (cA, .int)) {i : Int32} (hin : vp_in i n) (hdg : decode cc pc = .ok (.iaload, 1))
    (kk : W p l e R s m args below meth c H locs cells slots Q (F0 m (pc + 1) ls (.int (f i.toNatClampNeg) :: rest))) : W p l e R s m args below meth c H locs cells slots Q (F0 m pc ls (.int i :: .ref a :: rest)) := va_iald hexec hb hK (hH.one ha) 0 t0 rfl ht hin hdg kk
theorem hm_lald (hexec : p.tables.exec = Jvm.exec) (hb : c.code = cc) (hK : va_K D cl tys s) (hH : hm D cl G h H) (t0 : Nat) {cA : ClassId} {n : Nat} {f : Nat → Int64} (ha : h a = some (.inl (cA, n, .inr (.inl f)))) (ht : tys[t0]? = some (cA, .long)) {i : Int32} (hin : vp_in i n) (hdg : decode cc pc = .ok (.laload, 1))
    (kk : W p l e R s m args below meth c H locs cells slots Q (F0 m (pc + 1) ls (.long (f i.toNatClampNeg) :: rest))) : W p l e R s m args below meth c H locs cells slots Q (F0 m pc ls (.int i :: .ref a :: rest)) := va_lald hexec hb hK (hH.one ha) 0 t0 rfl ht hin hdg kk
theorem hm_aald (hexec : p.tables.exec = Jvm.exec) (hb : c.code = cc) (hK : va_K D cl tys s) (hH : hm D cl G h H) (t0 : Nat) {cA : ClassId} {C : String} {n : Nat} {f : Nat → Option Nat} (ha : h a = some (.inl (cA, n, .inr (.inr (.inr (.inr f)))))) (ht : tys[t0]? = some (cA, .object C)) {i : Int32} (hin : vp_in i n) {v : Value} (hv : va_rf (f i.toNatClampNeg) = v) (hdg : decode cc pc = .ok (.aaload, 1))
    (kk : W p l e R s m args below meth c H locs cells slots Q (F0 m (pc + 1) ls (v :: rest))) : W p l e R s m args below meth c H locs cells slots Q (F0 m pc ls (.int i :: .ref a :: rest)) := by
  subst hv
  exact va_aldq hexec hb hK (hH.one ha) 0 t0 rfl ht hin hdg kk
theorem hm_alen (hexec : p.tables.exec = Jvm.exec) (hb : c.code = cc) (hK : va_K D cl tys s) (hH : hm D cl G h H) (t0 : Nat) {cA : ClassId} {x : vp_A} (ha : h a = some (.inl (cA, x))) {ty : FieldType} (ht : tys[t0]? = some (cA, ty)) {v : Int32} (hv : Int32.ofNat x.1 = v) (hdg : decode cc pc = .ok (.arraylength, 1))
    (kk : W p l e R s m args below meth c H locs cells slots Q (F0 m (pc + 1) ls (.int v :: rest))) : W p l e R s m args below meth c H locs cells slots Q (F0 m pc ls (.ref a :: rest)) := va_alen hexec hb hK (hH.one ha) 0 t0 rfl ht hv hdg kk
theorem hm_bast (hexec : p.tables.exec = Jvm.exec) (hb : c.code = cc) (hK : va_K D cl tys s) (hH : hm D cl G h H) (hLo : hLc G.size locs) (t0 : Nat) {cA : ClassId} {n : Nat} {f : Nat → Int32} (ha : h a = some (.inl (cA, n, .inl f))) (ht : tys[t0]? = some (cA, .byte)) {i x : Int32} (hin : vp_in i n) (hdg : decode cc pc = .ok (.bastore, 1))
    (kk : ∀ (H1 : Heap) (locs1 : List Loc), hm D cl G (hu h a (.inl (cA, n, .inl (upd f i.toNatClampNeg (vp_nar .byte x))))) H1 → H1.size = H.size → hLc G.size locs1 → W p l e R s m args below meth c H1 locs1 cells slots Q (F0 m (pc + 1) ls rest)) : W p l e R s m args below meth c H locs cells slots Q (F0 m pc ls (.int x :: .int i :: .ref a :: rest)) := by
  refine W.bast hexec hb (hH.at ha) ((hK.2 t0 _ ht).1 n (fun j => .int (f j))) (fun q => by cases q) (by show ¬ (i < 0 ∨ (arrV _ _ _).slots.size ≤ _); rw [arrV_size]; exact hin) rfl rfl hdg fun H1 e z oq => ?_
  refine kk H1 _ (hH.set (hH.ge ha) ?_ z oq) z (hLc_put hLo (hH.ge ha))
  show H1[a]? = some (vp_cell _ _)
  rw [e, vp_cell_i, vp_cell_i, arrV_store]
  congr 2
  funext q
  by_cases hq : q = i.toNatClampNeg
  · subst hq
    simp [updV, upd, vp_nar]
    try rfl
  · simp [updV, upd, hq]
theorem hm_zast (hexec : p.tables.exec = Jvm.exec) (hb : c.code = cc) (hK : va_K D cl tys s) (hH : hm D cl G h H) (hLo : hLc G.size locs) (t0 : Nat) {cA : ClassId} {n : Nat} {f : Nat → Int32} (ha : h a = some (.inl (cA, n, .inl f))) (ht : tys[t0]? = some (cA, .boolean)) {i x : Int32} (hin : vp_in i n) (hdg : decode cc pc = .ok (.bastore, 1))
    (kk : ∀ (H1 : Heap) (locs1 : List Loc), hm D cl G (hu h a (.inl (cA, n, .inl (upd f i.toNatClampNeg (vp_nar .boolean x))))) H1 → H1.size = H.size → hLc G.size locs1 → W p l e R s m args below meth c H1 locs1 cells slots Q (F0 m (pc + 1) ls rest)) : W p l e R s m args below meth c H locs cells slots Q (F0 m pc ls (.int x :: .int i :: .ref a :: rest)) := by
  refine W.zast hexec hb (hH.at ha) ((hK.2 t0 _ ht).1 n (fun j => .int (f j))) (fun q => by cases q) (by show ¬ (i < 0 ∨ (arrV _ _ _).slots.size ≤ _); rw [arrV_size]; exact hin) rfl rfl hdg fun H1 e z oq => ?_
  refine kk H1 _ (hH.set (hH.ge ha) ?_ z oq) z (hLc_put hLo (hH.ge ha))
  show H1[a]? = some (vp_cell _ _)
  rw [e, vp_cell_i, vp_cell_i, arrV_store]
  congr 2
  funext q
  by_cases hq : q = i.toNatClampNeg
  · subst hq
    simp [updV, upd, vp_nar]
    try rfl
  · simp [updV, upd, hq]
theorem hm_iast (hexec : p.tables.exec = Jvm.exec) (hb : c.code = cc) (hK : va_K D cl tys s) (hH : hm D cl G h H) (hLo : hLc G.size locs) (t0 : Nat) {cA : ClassId} {n : Nat} {f : Nat → Int32} (ha : h a = some (.inl (cA, n, .inl f))) (ht : tys[t0]? = some (cA, .int)) {i x : Int32} (hin : vp_in i n) (hdg : decode cc pc = .ok (.iastore, 1))
    (kk : ∀ (H1 : Heap) (locs1 : List Loc), hm D cl G (hu h a (.inl (cA, n, .inl (upd f i.toNatClampNeg x)))) H1 → H1.size = H.size → hLc G.size locs1 → W p l e R s m args below meth c H1 locs1 cells slots Q (F0 m (pc + 1) ls rest)) : W p l e R s m args below meth c H locs cells slots Q (F0 m pc ls (.int x :: .int i :: .ref a :: rest)) := by
  refine W.iast hexec hb (hH.at ha) ((hK.2 t0 _ ht).1 n (fun j => .int (f j))) (fun q => by cases q) (by show ¬ (i < 0 ∨ (arrV _ _ _).slots.size ≤ _); rw [arrV_size]; exact hin) rfl rfl hdg fun H1 e z oq => ?_
  refine kk H1 _ (hH.set (hH.ge ha) ?_ z oq) z (hLc_put hLo (hH.ge ha))
  show H1[a]? = some (vp_cell _ _)
  rw [e, vp_cell_i, vp_cell_i, arrV_store]
  congr 2
  funext q
  by_cases hq : q = i.toNatClampNeg
  · subst hq
    simp [updV, upd]
  · simp [updV, upd, hq]
theorem hm_last (hexec : p.tables.exec = Jvm.exec) (hb : c.code = cc) (hK : va_K D cl tys s) (hH : hm D cl G h H) (hLo : hLc G.size locs) (t0 : Nat) {cA : ClassId} {n : Nat} {f : Nat → Int64} (ha : h a = some (.inl (cA, n, .inr (.inl f)))) (ht : tys[t0]? = some (cA, .long)) {i : Int32} {x : Int64} (hin : vp_in i n) (hdg : decode cc pc = .ok (.lastore, 1))
    (kk : ∀ (H1 : Heap) (locs1 : List Loc), hm D cl G (hu h a (.inl (cA, n, .inr (.inl (vp_updL f i.toNatClampNeg x))))) H1 → H1.size = H.size → hLc G.size locs1 → W p l e R s m args below meth c H1 locs1 cells slots Q (F0 m (pc + 1) ls rest)) : W p l e R s m args below meth c H locs cells slots Q (F0 m pc ls (.long x :: .int i :: .ref a :: rest)) := by
  refine W.last hexec hb (hH.at ha) ((hK.2 t0 _ ht).1 n (fun j => .long (f j))) (fun q => by cases q) (by show ¬ (i < 0 ∨ (arrV _ _ _).slots.size ≤ _); rw [arrV_size]; exact hin) rfl rfl hdg fun H1 e z oq => ?_
  refine kk H1 _ (hH.set (hH.ge ha) ?_ z oq) z (hLc_put hLo (hH.ge ha))
  show H1[a]? = some (vp_cell _ _)
  rw [e, vp_cell_l, vp_cell_l, arrV_store]
  congr 2
  funext q
  by_cases hq : q = i.toNatClampNeg
  · subst hq
    simp [updV, vp_updL]
  · simp [updV, vp_updL, hq]
theorem hm_aast (hexec : p.tables.exec = Jvm.exec) (hb : c.code = cc) (hK : va_K D cl tys s) (hH : hm D cl G h H) (hLo : hLc G.size locs) (t0 ci : Nat) {cA : ClassId} {r : vw_C} {n v : Nat} {vs : List Value} {f : Nat → Option Nat} (ha : h a = some (.inl (cA, n, .inr (.inr (.inr (.inr f)))))) (ht : tys[t0]? = some (cA, .object r.1)) (hv : h v = some (.inr (ci, vs))) (hc : cl[ci]? = some r) {i : Int32} (hin : vp_in i n) (hdg : decode cc pc = .ok (.aastore, 1))
    (kk : ∀ (H1 : Heap) (locs1 : List Loc), hm D cl G (hu h a (.inl (cA, n, .inr (.inr (.inr (.inr (va_up f i.toNatClampNeg (some v)))))))) H1 → H1.size = H.size → hLc G.size locs1 → W p l e R s m args below meth c H1 locs1 cells slots Q (F0 m (pc + 1) ls rest)) : W p l e R s m args below meth c H locs cells slots Q (F0 m pc ls (.ref v :: .int i :: .ref a :: rest)) := by
  have hlt : i.toNatClampNeg < n := Nat.not_le.mp fun q => hin (Or.inr q)
  have h0 : ¬ i < 0 := fun q => hin (Or.inl q)
  obtain ⟨r', hr', cellV, g1, g2, g3, -⟩ := hH.at hv
  have hcls := (hK.1 ci r hc).2
  obtain ⟨kA, comp, k1, k2, k3, -⟩ := (hK.2 t0 _ ht).2
  have hcomp : comp = D.1 ci := Option.some.inj (k3.symm.trans hcls.1)
  subst hcomp
  obtain ⟨kC, hkC, -⟩ := hcls.2
  refine W.aast hexec hb (hH.at ha) (fun q h => by cases h) (fun h => by cases h) k1 k2 rfl hkC ⟨h0, by show _ < (arrV _ _ _).slots.size; rw [arrV_size]; exact hlt⟩ g1 (fun q h => by rw [g3] at h; cases h) (by rw [g2]; exact hkC) (by rw [g2]; exact va_assign hcls) rfl rfl hdg fun H1 e z oq => ?_
  refine kk H1 _ (hH.set (hH.ge ha) ?_ z oq) z (hLc_put hLo (hH.ge ha))
  show H1[a]? = some (vp_cell _ _)
  rw [e, vp_cell_q, vp_cell_q, arrV_store]
  congr 2
  funext q
  by_cases hq : q = i.toNatClampNeg
  · subst hq
    simp [updV, va_up, va_rf]
  · simp [updV, va_up, hq]
/-! making -/
theorem hm_new (hexec : p.tables.exec = Jvm.exec) (hb : c.code = cc) {own C : String} {T : u_T} {N ci index : Nat} {Ts : List Cond} (hts : ∀ w ∈ Ts, w.before args s = true) (hin : ∀ w ∈ u_ws C T N, w ∈ Ts) (ty : Nat → FieldType) (hty : ∀ k, k < N → parseFieldDescriptor (T k).2.2.1 = some (ty k)) (hown : s.vm.findClass own = some m.cls) (hcl : (Cond.classLink own index C).before args s = true) (hinst : (Cond.instantiable C N).before args s = true) (hini : (Cond.initialized C).before args s = true)
    (hK : va_K D cl tys s) (hH : hm D cl G h H) (hc : cl[ci]? = some (C, T, N)) {fs : List Value} (hfs : ∀ j, j < N → defaultValue (ty j) = vp_V fs j) (hcells : cells + 1 ≤ R.cells) (hslots : slots + N ≤ R.slots) (hdg : decode cc pc = .ok (.new index, 3))
    (kk : ∀ (q : Nat) (H1 : Heap), q = H.size → h q = none → hm D cl G (hu h q (.inr (ci, fs))) H1 → H1.size = H.size + 1 →
      W p l e R s m args below meth c H1 locs (cells + 1) (slots + N) Q (F0 m (pc + 3) ls (.ref q :: rest))) : W p l e R s m args below meth c H locs cells slots Q (F0 m pc ls rest) := by
  have hKn := hK.1 ci _ hc
  refine W.newcK hexec hb hown hcl hinst hini rfl hdg hcells hslots hKn.2.1 rfl fun H1 kC hkC e1 z1 o1 => ?_
  refine kk H.size H1 rfl ?_ (hH.push ⟨_, hc, (u_born ty hts hin hKn hkC e1 hty).to hfs⟩ z1 o1) z1
  cases hq : h H.size with
  | none => rfl
  | some e9 => exact absurd rfl (hH.fresh hq)
theorem hm_newa (hexec : p.tables.exec = Jvm.exec) (hb : c.code = cc) {atype : ArrayType} (harr : (Cond.arrayClass (newarray.typeOf atype)).before args s = true) {ty : FieldType} (hty : newarray.typeOf atype = ty) (hK : va_K D cl tys s) (hH : hm D cl G h H) (t0 : Nat) {cA : ClassId} (ht : tys[t0]? = some (cA, ty)) (hRA : s.vm.findClass ("[" ++ ty.toString) = some cA)
    {n : Int32} {N' : Nat} {a0 : vp_A} (ha : ∀ cA : ClassId, vp_cell cA a0 = arrV cA N' (fun _ => defaultValue ty)) (hn : ¬ n < 0) (hN : n.toNatClampNeg = N') (hbytes : N' * componentBytes ty ≤ 536870912) (hcells : cells + 1 ≤ R.cells) (hslots : slots + N' ≤ R.slots) (hdg : decode cc pc = .ok (.newarray atype, 2))
    (kk : ∀ (q : Nat) (H1 : Heap), q = H.size → h q = none → hm D cl G (hu h q (.inl (cA, a0))) H1 → H1.size = H.size + 1 →
      W p l e R s m args below meth c H1 locs (cells + 1) (slots + N') Q (F0 m (pc + 2) ls (.ref q :: rest))) : W p l e R s m args below meth c H locs cells slots Q (F0 m pc ls (.int n :: rest)) := by
  subst hty
  refine va_newaK hexec hb harr rfl hdg rfl hn hN hbytes hcells hslots rfl fun H1 cA' e1 z1 o1 hAr hNm => ?_
  have hcc : cA' = cA := Option.some.inj (hNm.symm.trans hRA)
  subst hcc
  refine kk H.size H1 rfl ?_ (hH.push ?_ z1 o1) z1
  · cases hq : h H.size with
    | none => rfl
    | some e9 => exact absurd rfl (hH.fresh hq)
  · show H1[H.size]? = some (vp_cell _ _)
    rw [ha]
    exact e1
theorem hm_newq (hexec : p.tables.exec = Jvm.exec) (hb : c.code = cc) {own C : String} {index : Nat} (hown : s.vm.findClass own = some m.cls) (hclink : (Cond.classLink own index C).before args s = true) (hover : va_AO C s) (hK : va_K D cl tys s) (hH : hm D cl G h H) (t0 : Nat) {cA : ClassId} (ht : tys[t0]? = some (cA, .object C))
    {n : Int32} {N' : Nat} (hn : ¬ n < 0) (hN : n.toNatClampNeg = N') (hbytes : N' * 4 ≤ 536870912) (hcells : cells + 1 ≤ R.cells) (hslots : slots + N' ≤ R.slots) (hdg : decode cc pc = .ok (.anewarray index, 3))
    (kk : ∀ (q : Nat) (H1 : Heap), q = H.size → h q = none → hm D cl G (hu h q (.inl (cA, N', .inr (.inr (.inr (.inr (fun _ => none))))))) H1 → H1.size = H.size + 1 →
      W p l e R s m args below meth c H1 locs (cells + 1) (slots + N') Q (F0 m (pc + 3) ls (.ref q :: rest))) : W p l e R s m args below meth c H locs cells slots Q (F0 m pc ls (.int n :: rest)) := by
  subst hN
  refine W.anew hexec hb hown hclink (va_AO.use hover) rfl hdg rfl hn hbytes hcells hslots fun cA' kA comp f1 f2 f3 f4 => ?_
  have hcc : cA' = cA := by
    obtain ⟨kA2, comp2, g1, g2, g3, g4⟩ := (hK.2 t0 _ ht).2
    exact Option.some.inj (f1.symm.trans g4)
  subst hcc
  generalize hH1 : H.push ({ cls := cA', slots := Array.replicate n.toNatClampNeg .null, vm := .none } : Cell) = H1
  have z1 : H1.size = H.size + 1 := by rw [← hH1, Array.size_push]
  have e1 : H1[H.size]? = some (arrV cA' n.toNatClampNeg (fun _ => .null)) := by rw [← hH1, Array.getElem?_push_size, ← arrV_new]
  have o1 : ∀ q : Nat, q < H.size → H1[q]? = H[q]? := fun q hq => by rw [← hH1, Array.getElem?_push, if_neg (Nat.ne_of_lt hq)]
  refine kk H.size H1 rfl ?_ (hH.push ?_ z1 o1) z1
  · cases hq : h H.size with
    | none => rfl
    | some e9 => exact absurd rfl (hH.fresh hq)
  · show H1[H.size]? = some (vp_cell _ _)
    rw [vp_cell_q]
    exact e1
end HMW
/-! what stays: at each address outside M the cell that was there -/
def kp (M : List Nat) (h h' : hM) : Prop := ∀ (b : Nat) (e : va_E), h b = some e → b ∉ M → h' b = some e
theorem kp_rf {M : List Nat} {h : hM} : kp M h h := fun _ _ hb _ => hb
theorem kp_put {M : List Nat} {h h1 : hM} {a : Nat} {e : va_E} (k : kp M h h1) (ha : a ∈ M) : kp M h (hu h1 a e) := fun b f hb hn => by
  rw [hu_n (fun q => hn (by rw [q]; exact ha))]
  exact k b f hb hn
theorem kp_new {M : List Nat} {h h1 : hM} {a : Nat} {e : va_E} (k : kp M h h1) (ha : h1 a = none) : kp M h (hu h1 a e) := fun b f hb hn => by
  have h2 := k b f hb hn
  rw [hu_n (fun q => by rw [q, ha] at h2; cases h2)]
  exact h2
theorem kp_tr {M M' : List Nat} {h h1 h2 : hM} (k : kp M h h1) (k2 : kp M' h1 h2) (hs : ∀ a ∈ M', a ∈ M) : kp M h h2 := fun b f hb hn => k2 b f (k b f hb hn) (fun q => hn (hs b q))
theorem kp_mono {M M' : List Nat} {h h1 : hM} (k : kp M h h1) (hs : ∀ a ∈ M, a ∈ M') : kp M' h h1 := fun b f hb hn => k b f hb (fun q => hn (hs b q))
/-- what was made since is no longer watched: cells of M that h did not have -/
theorem kp_drop {M M' : List Nat} {h h1 : hM} (k : kp M h h1) (hs : ∀ a ∈ M, a ∈ M' ∨ h a = none) : kp M' h h1 := fun b f hb hn => k b f hb (fun q => by
  rcases hs b q with h2 | h2
  · exact hn h2
  · rw [h2] at hb
    cases hb)
theorem kp_at {M : List Nat} {h h1 : hM} {b : Nat} {e : va_E} (k : kp M h h1) (hb : h b = some e) (hn : b ∉ M) : h1 b = some e := k b e hb hn
theorem nm0 {b : Nat} : b ∉ ([] : List Nat) := fun h => by cases h
theorem nmc {b a : Nat} {M : List Nat} (n : b ≠ a) (h : b ∉ M) : b ∉ a :: M := fun q => by
  rcases List.mem_cons.mp q with h1 | h1
  · exact n h1
  · exact h h1
/-! a contract's start and end -/
def hP (K : State → Prop) (D : va_G) (cl : List vw_C) (G : Heap) (h : hM) (av : List Value) : Array Value → State → Prop := fun v U => v = av.toArray ∧ K U ∧ hm D cl G h U.heap
def hQi (D : va_G) (cl : List vw_C) (G : Heap) (post : Int32 → hM → Prop) : Array Value → State → Outcome → State → Prop := fun _ st o t => ∃ (r : Int32) (h' : hM), o = .returned (some (.int r)) ∧ post r h' ∧ hm D cl G h' t.heap ∧ st.heap.size ≤ t.heap.size
def hQl (D : va_G) (cl : List vw_C) (G : Heap) (post : Int64 → hM → Prop) : Array Value → State → Outcome → State → Prop := fun _ st o t => ∃ (r : Int64) (h' : hM), o = .returned (some (.long r)) ∧ post r h' ∧ hm D cl G h' t.heap ∧ st.heap.size ≤ t.heap.size
def hQr (D : va_G) (cl : List vw_C) (G : Heap) (post : Option Nat → hM → Prop) : Array Value → State → Outcome → State → Prop := fun _ st o t => ∃ (r : Option Nat) (h' : hM), o = .returned (some (va_rf r)) ∧ post r h' ∧ hm D cl G h' t.heap ∧ st.heap.size ≤ t.heap.size
def hQv (D : va_G) (cl : List vw_C) (G : Heap) (post : hM → Prop) : Array Value → State → Outcome → State → Prop := fun _ st o t => ∃ (h' : hM), o = .returned none ∧ post h' ∧ hm D cl G h' t.heap ∧ st.heap.size ≤ t.heap.size
/-- the tables' part of a start: it goes over into a call, and stays while the machine notes what it resolved -/
def hKok (K : State → Prop) : Prop := (∀ (U : State) (g : JFrame) (mk : MethodId) (a : Array Value), K U → K (U.calling g mk a)) ∧ ∀ (s U : State), s.WarmedH U.vm → K s → K U
theorem hP_S {K : State → Prop} {D : va_G} {cl : List vw_C} {G : Heap} {h : hM} {s : State} {H : Heap} {As : List Value} (ok : hKok K) (hk : K s) (hH : hm D cl G h H) : PreS s H (hP K D cl G h As) As :=
  ⟨fun a U g mk q => ⟨q.1, ok.1 U g mk a q.2.1, q.2.2⟩, fun U hU hW => ⟨rfl, ok.2 s U hW hk, by rw [hU]; exact hH⟩⟩
theorem hP_V {K : State → Prop} {D : va_G} {cl : List vw_C} {tys : List (ClassId × FieldType)} {G : Heap} {h : hM} {s : State} {H : Heap} {As : List Value} {b ci : Nat} {fs : List Value} {q : vw_C} (ok : hKok K) (hk : K s) (hK : va_K D cl tys s) (hH : hm D cl G h H) (he : h b = some (.inr (ci, fs))) (hc : cl[ci]? = some q) : PreV s H q.1 b (hP K D cl G h (.ref b :: As)) As :=
  ⟨fun a U g mk q => ⟨q.1, ok.1 U g mk a q.2.1, q.2.2⟩, va_recv (q0 := 0) hK (hH.one he) hc rfl, fun U hU hW => ⟨rfl, ok.2 s U hW hk, by rw [hU]; exact hH⟩⟩
section HMC
variable {p : Program} {l : Launch} {e : Env} {R : Room} {s : State} {m : MethodId} {args : Array Value} {below : List Frame} {meth : Method} {c : Code} {H : Heap} {locs : List Loc} {cells slots : Nat} {Q : State → Prop}
variable {pc : Nat} {ls : Array Slot} {rest st0 : List Value} {a : Array Value} {mc ms : Nat} {D : va_G} {cl : List vw_C} {G : Heap}
theorem hm_calli {post : Int32 → hM → Prop} (hr : va_Run p l e R s m args below meth c H locs cells slots mc ms (F0 m pc ls st0) rest (hQi D cl G post a) (fun q => G.size ≤ q)) (hLo : hLc G.size locs)
    (kk : ∀ (r : Int32) (h' : hM) (H1 : Heap) (locs1 : List Loc), post r h' → hm D cl G h' H1 → H.size ≤ H1.size → hLc G.size locs1 → W p l e R s m args below meth c H1 locs1 (cells + mc) (slots + ms) Q (F0 m (pc + 3) ls (.int r :: rest))) : W p l e R s m args below meth c H locs cells slots Q (F0 m pc ls st0) := by
  intro T hT X
  obtain ⟨v, st₀, t, T', L, h0, X', hL, e1, e2, ⟨r, h', hv, hp, hh, hz⟩, st⟩ := hr T hT X
  cases hv
  rw [h0] at hz
  obtain ⟨t2, a1, b1⟩ := kk r h' T'.heap (locs ++ L) hp (by rw [e1]; exact hh) (by rw [e1]; exact hz) (hLc_app hLo hL) T' rfl X'
  exact ⟨t2, st t2 a1, b1⟩
theorem hm_calll {post : Int64 → hM → Prop} (hr : va_Run p l e R s m args below meth c H locs cells slots mc ms (F0 m pc ls st0) rest (hQl D cl G post a) (fun q => G.size ≤ q)) (hLo : hLc G.size locs)
    (kk : ∀ (r : Int64) (h' : hM) (H1 : Heap) (locs1 : List Loc), post r h' → hm D cl G h' H1 → H.size ≤ H1.size → hLc G.size locs1 → W p l e R s m args below meth c H1 locs1 (cells + mc) (slots + ms) Q (F0 m (pc + 3) ls (.long r :: rest))) : W p l e R s m args below meth c H locs cells slots Q (F0 m pc ls st0) := by
  intro T hT X
  obtain ⟨v, st₀, t, T', L, h0, X', hL, e1, e2, ⟨r, h', hv, hp, hh, hz⟩, st⟩ := hr T hT X
  cases hv
  rw [h0] at hz
  obtain ⟨t2, a1, b1⟩ := kk r h' T'.heap (locs ++ L) hp (by rw [e1]; exact hh) (by rw [e1]; exact hz) (hLc_app hLo hL) T' rfl X'
  exact ⟨t2, st t2 a1, b1⟩
theorem hm_callr {post : Option Nat → hM → Prop} (hr : va_Run p l e R s m args below meth c H locs cells slots mc ms (F0 m pc ls st0) rest (hQr D cl G post a) (fun q => G.size ≤ q)) (hLo : hLc G.size locs)
    (kk : ∀ (r : Option Nat) (h' : hM) (H1 : Heap) (locs1 : List Loc), post r h' → hm D cl G h' H1 → H.size ≤ H1.size → hLc G.size locs1 → W p l e R s m args below meth c H1 locs1 (cells + mc) (slots + ms) Q (F0 m (pc + 3) ls (va_rf r :: rest))) : W p l e R s m args below meth c H locs cells slots Q (F0 m pc ls st0) := by
  intro T hT X
  obtain ⟨v, st₀, t, T', L, h0, X', hL, e1, e2, ⟨r, h', hv, hp, hh, hz⟩, st⟩ := hr T hT X
  cases hv
  rw [h0] at hz
  obtain ⟨t2, a1, b1⟩ := kk r h' T'.heap (locs ++ L) hp (by rw [e1]; exact hh) (by rw [e1]; exact hz) (hLc_app hLo hL) T' rfl X'
  exact ⟨t2, st t2 a1, b1⟩
theorem hm_callv {post : hM → Prop} (hr : va_Run p l e R s m args below meth c H locs cells slots mc ms (F0 m pc ls st0) rest (hQv D cl G post a) (fun q => G.size ≤ q)) (hLo : hLc G.size locs)
    (kk : ∀ (h' : hM) (H1 : Heap) (locs1 : List Loc), post h' → hm D cl G h' H1 → H.size ≤ H1.size → hLc G.size locs1 → W p l e R s m args below meth c H1 locs1 (cells + mc) (slots + ms) Q (F0 m (pc + 3) ls rest)) : W p l e R s m args below meth c H locs cells slots Q (F0 m pc ls st0) := by
  intro T hT X
  obtain ⟨v, st₀, t, T', L, h0, X', hL, e1, e2, ⟨h', hv, hp, hh, hz⟩, st⟩ := hr T hT X
  cases hv
  rw [h0] at hz
  obtain ⟨t2, a1, b1⟩ := kk h' T'.heap (locs ++ L) hp (by rw [e1]; exact hh) (by rw [e1]; exact hz) (hLc_app hLo hL) T' rfl X'
  exact ⟨t2, st t2 a1, b1⟩
end HMC
/-! the words: all good ones of the tables go along with every method -/
def lw_g : List Cond := lw_tbl.filter goodWord
theorem gw9 {w : Cond} (h : goodWord w = true) : (w.onTables && w.keeps) = true ∨ ∃ ty, w = .arrayClass ty := by
  cases w <;> first | exact Or.inr ⟨_, rfl⟩ | exact Or.inl h
theorem lw_gin {w : Cond} (h : w ∈ lw_tbl) (hg : goodWord w = true) : w ∈ lw_g := List.mem_filter.mpr ⟨h, hg⟩
theorem lw_good {w : Cond} (h : w ∈ lw_g) : GoodIn lw_g (w :: lw_g) := by
  intro x hx
  rcases List.mem_cons.mp hx with h1 | h1
  · subst h1
    exact ⟨h, gw9 (List.mem_filter.mp h).2⟩
  · exact ⟨h1, gw9 (List.mem_filter.mp h1).2⟩
/-! the same rows, the place given as a number -/
section HMJ
variable {p : Program} {l : Launch} {e : Env} {R : Room} {s : State} {m : MethodId} {args : Array Value} {below : List Frame} {meth : Method} {c : Code} {H : Heap} {locs : List Loc} {cells slots : Nat} {Q : State → Prop}
variable {cc : ByteArray} {pc : Nat} {ls : Array Slot} {rest : List Value} {D : va_G} {cl : List vw_C} {a : Nat} {tys : List (ClassId × FieldType)} {G : Heap} {h : hM}
theorem hj_bald (hexec : p.tables.exec = Jvm.exec) (hb : c.code = cc) (hK : va_K D cl tys s) (hH : hm D cl G h H) (t0 : Nat) {cA : ClassId} {n : Nat} {f : Nat → Int32} (ha : h a = some (.inl (cA, n, .inl f))) (ht : tys[t0]? = some (cA, .byte)) {i : Int32} (j : Nat) (hi : i = nI j) (hj : j < n) (hn : n < 2 ^ 31) (hdg : decode cc pc = .ok (.baload, 1))
    (kk : W p l e R s m args below meth c H locs cells slots Q (F0 m (pc + 1) ls (.int (f j) :: rest))) : W p l e R s m args below meth c H locs cells slots Q (F0 m pc ls (.int i :: .ref a :: rest)) := by
  subst hi
  refine hm_bald hexec hb hK hH t0 ha ht (vp_in_nI hj hn) hdg ?_
  rw [nI_clamp (Nat.lt_trans hj hn)]
  exact kk
theorem hj_zald (hexec : p.tables.exec = Jvm.exec) (hb : c.code = cc) (hK : va_K D cl tys s) (hH : hm D cl G h H) (t0 : Nat) {cA : ClassId} {n : Nat} {f : Nat → Int32} (ha : h a = some (.inl (cA, n, .inl f))) (ht : tys[t0]? = some (cA, .boolean)) {i : Int32} (j : Nat) (hi : i = nI j) (hj : j < n) (hn : n < 2 ^ 31) (hdg : decode cc pc = .ok (.baload, 1))
    (kk : W p l e R s m args below meth c H locs cells slots Q (F0 m (pc + 1) ls (.int (f j) :: rest))) : W p l e R s m args below meth c H locs cells slots Q (F0 m pc ls (.int i :: .ref a :: rest)) := by
  subst hi
  refine hm_zald hexec hb hK hH t0 ha ht (vp_in_nI hj hn) hdg ?_
  rw [nI_clamp (Nat.lt_trans hj hn)]
  exact kk
theorem hj_iald (hexec : p.tables.exec = Jvm.exec) (hb : c.code = cc) (hK : va_K D cl tys s) (hH : hm D cl G h H) (t0 : Nat) {cA : ClassId} {n : Nat} {f : Nat → Int32} (ha : h a = some (.inl (cA, n, .inl f))) (ht : tys[t0]? = some (cA, .int)) {i : Int32} (j : Nat) (hi : i = nI j) (hj : j < n) (hn : n < 2 ^ 31) (hdg : decode cc pc = .ok (.iaload, 1))
    (kk : W p l e R s m args below meth c H locs cells slots Q (F0 m (pc + 1) ls (.int (f j) :: rest))) : W p l e R s m args below meth c H locs cells slots Q (F0 m pc ls (.int i :: .ref a :: rest)) := by
  subst hi
  refine hm_iald hexec hb hK hH t0 ha ht (vp_in_nI hj hn) hdg ?_
  rw [nI_clamp (Nat.lt_trans hj hn)]
  exact kk
theorem hj_lald (hexec : p.tables.exec = Jvm.exec) (hb : c.code = cc) (hK : va_K D cl tys s) (hH : hm D cl G h H) (t0 : Nat) {cA : ClassId} {n : Nat} {f : Nat → Int64} (ha : h a = some (.inl (cA, n, .inr (.inl f)))) (ht : tys[t0]? = some (cA, .long)) {i : Int32} (j : Nat) (hi : i = nI j) (hj : j < n) (hn : n < 2 ^ 31) (hdg : decode cc pc = .ok (.laload, 1))
    (kk : W p l e R s m args below meth c H locs cells slots Q (F0 m (pc + 1) ls (.long (f j) :: rest))) : W p l e R s m args below meth c H locs cells slots Q (F0 m pc ls (.int i :: .ref a :: rest)) := by
  subst hi
  refine hm_lald hexec hb hK hH t0 ha ht (vp_in_nI hj hn) hdg ?_
  rw [nI_clamp (Nat.lt_trans hj hn)]
  exact kk
theorem hj_aald (hexec : p.tables.exec = Jvm.exec) (hb : c.code = cc) (hK : va_K D cl tys s) (hH : hm D cl G h H) (t0 : Nat) {cA : ClassId} {C : String} {n : Nat} {f : Nat → Option Nat} (ha : h a = some (.inl (cA, n, .inr (.inr (.inr (.inr f)))))) (ht : tys[t0]? = some (cA, .object C)) {i : Int32} (j : Nat) (hi : i = nI j) (hj : j < n) (hn : n < 2 ^ 31) {v : Value} (hv : va_rf (f j) = v) (hdg : decode cc pc = .ok (.aaload, 1))
    (kk : W p l e R s m args below meth c H locs cells slots Q (F0 m (pc + 1) ls (v :: rest))) : W p l e R s m args below meth c H locs cells slots Q (F0 m pc ls (.int i :: .ref a :: rest)) := by
  subst hi
  exact hm_aald hexec hb hK hH t0 ha ht (vp_in_nI hj hn) (by rw [nI_clamp (Nat.lt_trans hj hn)]; exact hv) hdg kk
theorem hj_bast (hexec : p.tables.exec = Jvm.exec) (hb : c.code = cc) (hK : va_K D cl tys s) (hH : hm D cl G h H) (hLo : hLc G.size locs) (t0 : Nat) {cA : ClassId} {n : Nat} {f : Nat → Int32} (ha : h a = some (.inl (cA, n, .inl f))) (ht : tys[t0]? = some (cA, .byte)) {i : Int32} {x : Int32} (j : Nat) (hi : i = nI j) (hj : j < n) (hn : n < 2 ^ 31) (hdg : decode cc pc = .ok (.bastore, 1))
    (kk : ∀ (H1 : Heap) (locs1 : List Loc), hm D cl G (hu h a (.inl (cA, n, .inl (upd f j (vp_nar .byte x))))) H1 → H1.size = H.size → hLc G.size locs1 → W p l e R s m args below meth c H1 locs1 cells slots Q (F0 m (pc + 1) ls rest)) : W p l e R s m args below meth c H locs cells slots Q (F0 m pc ls (.int x :: .int i :: .ref a :: rest)) := by
  subst hi
  refine hm_bast hexec hb hK hH hLo t0 ha ht (vp_in_nI hj hn) hdg ?_
  rw [nI_clamp (Nat.lt_trans hj hn)]
  exact kk
theorem hj_zast (hexec : p.tables.exec = Jvm.exec) (hb : c.code = cc) (hK : va_K D cl tys s) (hH : hm D cl G h H) (hLo : hLc G.size locs) (t0 : Nat) {cA : ClassId} {n : Nat} {f : Nat → Int32} (ha : h a = some (.inl (cA, n, .inl f))) (ht : tys[t0]? = some (cA, .boolean)) {i : Int32} {x : Int32} (j : Nat) (hi : i = nI j) (hj : j < n) (hn : n < 2 ^ 31) (hdg : decode cc pc = .ok (.bastore, 1))
    (kk : ∀ (H1 : Heap) (locs1 : List Loc), hm D cl G (hu h a (.inl (cA, n, .inl (upd f j (vp_nar .boolean x))))) H1 → H1.size = H.size → hLc G.size locs1 → W p l e R s m args below meth c H1 locs1 cells slots Q (F0 m (pc + 1) ls rest)) : W p l e R s m args below meth c H locs cells slots Q (F0 m pc ls (.int x :: .int i :: .ref a :: rest)) := by
  subst hi
  refine hm_zast hexec hb hK hH hLo t0 ha ht (vp_in_nI hj hn) hdg ?_
  rw [nI_clamp (Nat.lt_trans hj hn)]
  exact kk
theorem hj_iast (hexec : p.tables.exec = Jvm.exec) (hb : c.code = cc) (hK : va_K D cl tys s) (hH : hm D cl G h H) (hLo : hLc G.size locs) (t0 : Nat) {cA : ClassId} {n : Nat} {f : Nat → Int32} (ha : h a = some (.inl (cA, n, .inl f))) (ht : tys[t0]? = some (cA, .int)) {i : Int32} {x : Int32} (j : Nat) (hi : i = nI j) (hj : j < n) (hn : n < 2 ^ 31) (hdg : decode cc pc = .ok (.iastore, 1))
    (kk : ∀ (H1 : Heap) (locs1 : List Loc), hm D cl G (hu h a (.inl (cA, n, .inl (upd f j x)))) H1 → H1.size = H.size → hLc G.size locs1 → W p l e R s m args below meth c H1 locs1 cells slots Q (F0 m (pc + 1) ls rest)) : W p l e R s m args below meth c H locs cells slots Q (F0 m pc ls (.int x :: .int i :: .ref a :: rest)) := by
  subst hi
  refine hm_iast hexec hb hK hH hLo t0 ha ht (vp_in_nI hj hn) hdg ?_
  rw [nI_clamp (Nat.lt_trans hj hn)]
  exact kk
theorem hj_last (hexec : p.tables.exec = Jvm.exec) (hb : c.code = cc) (hK : va_K D cl tys s) (hH : hm D cl G h H) (hLo : hLc G.size locs) (t0 : Nat) {cA : ClassId} {n : Nat} {f : Nat → Int64} (ha : h a = some (.inl (cA, n, .inr (.inl f)))) (ht : tys[t0]? = some (cA, .long)) {i : Int32} {x : Int64} (j : Nat) (hi : i = nI j) (hj : j < n) (hn : n < 2 ^ 31) (hdg : decode cc pc = .ok (.lastore, 1))
    (kk : ∀ (H1 : Heap) (locs1 : List Loc), hm D cl G (hu h a (.inl (cA, n, .inr (.inl (vp_updL f j x))))) H1 → H1.size = H.size → hLc G.size locs1 → W p l e R s m args below meth c H1 locs1 cells slots Q (F0 m (pc + 1) ls rest)) : W p l e R s m args below meth c H locs cells slots Q (F0 m pc ls (.long x :: .int i :: .ref a :: rest)) := by
  subst hi
  refine hm_last hexec hb hK hH hLo t0 ha ht (vp_in_nI hj hn) hdg ?_
  rw [nI_clamp (Nat.lt_trans hj hn)]
  exact kk
theorem hj_aast (hexec : p.tables.exec = Jvm.exec) (hb : c.code = cc) (hK : va_K D cl tys s) (hH : hm D cl G h H) (hLo : hLc G.size locs) (t0 ci : Nat) {cA : ClassId} {r : vw_C} {n v : Nat} {vs : List Value} {f : Nat → Option Nat} (ha : h a = some (.inl (cA, n, .inr (.inr (.inr (.inr f)))))) (ht : tys[t0]? = some (cA, .object r.1)) (hv : h v = some (.inr (ci, vs))) (hc : cl[ci]? = some r) {i : Int32} (j : Nat) (hi : i = nI j) (hj : j < n) (hn : n < 2 ^ 31) (hdg : decode cc pc = .ok (.aastore, 1))
    (kk : ∀ (H1 : Heap) (locs1 : List Loc), hm D cl G (hu h a (.inl (cA, n, .inr (.inr (.inr (.inr (va_up f j (some v)))))))) H1 → H1.size = H.size → hLc G.size locs1 → W p l e R s m args below meth c H1 locs1 cells slots Q (F0 m (pc + 1) ls rest)) : W p l e R s m args below meth c H locs cells slots Q (F0 m pc ls (.ref v :: .int i :: .ref a :: rest)) := by
  subst hi
  refine hm_aast hexec hb hK hH hLo t0 ci ha ht hv hc (vp_in_nI hj hn) hdg ?_
  rw [nI_clamp (Nat.lt_trans hj hn)]
  exact kk
/-- a loop: I holds at its head with a number that falls from round to round -/
theorem hm_loop (I : Nat → Array Slot → Heap → List Loc → hM → Prop) {st : List Value} (hs : ∀ (k : Nat) (ls : Array Slot) (H : Heap) (locs : List Loc) (hh : hM), I k ls H locs hh → (∀ (k2 : Nat) (ls2 : Array Slot) (H2 : Heap) (locs2 : List Loc) (hh2 : hM), k2 < k → I k2 ls2 H2 locs2 hh2 → W p l e R s m args below meth c H2 locs2 cells slots Q (F0 m pc ls2 st)) → W p l e R s m args below meth c H locs cells slots Q (F0 m pc ls st)) {k : Nat} {hh : hM} (hi : I k ls H locs hh) : W p l e R s m args below meth c H locs cells slots Q (F0 m pc ls st) := by
  have all : ∀ (n k : Nat), k < n → ∀ (ls : Array Slot) (H : Heap) (locs : List Loc) (hh : hM), I k ls H locs hh → W p l e R s m args below meth c H locs cells slots Q (F0 m pc ls st) := by
    intro n
    induction n with
    | zero => intro k hk; exact absurd hk (Nat.not_lt_zero k)
    | succ n ih =>
      intro k hk ls H locs hh hi
      exact hs k ls H locs hh hi (fun k2 ls2 H2 locs2 hh2 hlt hi2 => ih k2 (Nat.lt_of_lt_of_le hlt (Nat.le_of_lt_succ hk)) ls2 H2 locs2 hh2 hi2)
  exact all (k + 1) k (Nat.lt_succ_self k) ls H locs hh hi
theorem h_nf {h : hM} {q b : Nat} {e : va_E} (hq : h q = none) (hb : h b = some e) : b ≠ q := fun z => by
  rw [z, hq] at hb
  cases hb
end HMJ
/-! a call's words out of the one list -/
section CW9
variable {R : Room} {s : State} {args : Array Value} {own host : String} {index maxL mc ms : Nat} {y : MethodName} {bytes : ByteArray} {ret : Option FieldType} {rm : Room}
theorem cw9B (n : Nat) (hts : ∀ w ∈ lw_g, w.before args s = true) (hc : Cond.code y bytes maxL ret ∈ lw_g) (hl : Cond.methodLink own index y ∈ lw_g) (hini : Cond.initialized y.cls ∈ lw_g) (hrc : rm.cells = mc) (hrs : rm.slots = ms)
    (hd : y.cls ≠ "java/lang/invoke/MethodHandle" ∧ y.cls ≠ "java/lang/invoke/VarHandle" ∧ (parseMethodDescriptor y.desc).map (fun d => d.parameters.length) = some n) (hR : rm.frames + 1 ≤ R.frames ∧ 8 + (maxL + 11) + rm.locals ≤ R.locals) : CallB R s args own index y bytes maxL ret (Cond.code y bytes maxL ret :: lw_g) rm mc ms n :=
  callB_of n hts (lw_good hc) rfl hrc hrs (hts _ hini) (hts _ hl) hd hR
theorem cw9N (n : Nat) (hts : ∀ w ∈ lw_g, w.before args s = true) (hc : Cond.code y bytes maxL ret ∈ lw_g) (hl : va_Nw (.methodLinkNest own index y host) s) (hini : Cond.initialized y.cls ∈ lw_g) (hrc : rm.cells = mc) (hrs : rm.slots = ms)
    (hd : y.cls ≠ "java/lang/invoke/MethodHandle" ∧ y.cls ≠ "java/lang/invoke/VarHandle" ∧ (parseMethodDescriptor y.desc).map (fun d => d.parameters.length) = some n) (hR : rm.frames + 1 ≤ R.frames ∧ 8 + (maxL + 11) + rm.locals ≤ R.locals) : va_CN R s args own index y host bytes maxL ret (Cond.code y bytes maxL ret :: lw_g) rm mc ms n :=
  va_cnB n hts (lw_good hc) rfl hrc hrs hl (hts _ hini) hd hR
end CW9
/-! bytes and steps -/
theorem fitNar (x : Int32) : fits .byte (.int (vp_nar .byte x)) = true := by
  rw [vp_nar_byte]
  exact pk_fb x
theorem i32_step {x y : Int32} (h : ¬ y ≤ x) : (y.toInt - (x + 1).toInt).toNat < (y.toInt - x.toInt).toNat := by
  have h1 : x.toInt < y.toInt := by
    rw [Int32.le_iff_toInt_le] at h
    omega
  have h2 : y.toInt < 2 ^ 31 := Int32.toInt_lt y
  have h3 : -2 ^ 31 ≤ x.toInt := Int32.le_toInt x
  have h4 : (x + 1).toInt = x.toInt + 1 := by
    rw [Int32.toInt_add, show (1 : Int32).toInt = 1 from rfl]
    exact Int.bmod_eq_of_le (by omega) (by omega)
  omega
section HMY
variable {p : Program} {l : Launch} {e : Env} {R : Room} {s : State} {m : MethodId} {args : Array Value} {below : List Frame} {meth : Method} {c : Code} {H : Heap} {locs : List Loc} {cells slots : Nat} {Q : State → Prop}
variable {cc : ByteArray} {pc : Nat} {ls : Array Slot} {rest : List Value} {D : va_G} {cl : List vw_C} {a : Nat} {tys : List (ClassId × FieldType)} {G : Heap} {h : hM}
/-- System.arraycopy of bytes, from the beginnings -/
theorem hm_copyb (hexec : p.tables.exec = Jvm.exec) (hb : c.code = cc) (hml : c.maxLocals = ls.size) {own : String} {index : Nat} (hown : s.vm.findClass own = some m.cls) (hlink : (Cond.methodLink own index arraycopyName).before args s = true) (hnat : (Cond.native arraycopyName).before args s = true) (hstat : (Cond.static arraycopyName).before args s = true) (hini : (Cond.initialized "java/lang/System").before args s = true)
    (hK : va_K D cl tys s) (hH : hm D cl G h H) (hLo : hLc G.size locs) (t0 : Nat) {a0 : Nat} {c0 : ClassId} {n0 n1 : Nat} {f g : Nat → Int32} (ha0 : h a0 = some (.inl (c0, n0, .inl f))) (ha1 : h a = some (.inl (c0, n1, .inl g))) (ht0 : tys[t0]? = some (c0, .byte))
    {n : Int32} (N : Nat) (hnN : n = nI N) (hN : N < 2 ^ 31) (h4 : N ≤ n0) (h5 : N ≤ n1) (hfit : sb_Fit f)
    (hframes : 1 ≤ R.frames) (hlocals : (rest.map fun v => v.category).sum + (nativeFrameWords "java/lang/System" "arraycopy" 5 + 11) ≤ R.locals) (hdg : decode cc pc = .ok (.invokestatic index, 3))
    (kk : ∀ (H1 : Heap) (locs1 : List Loc), hm D cl G (hu h a (.inl (c0, n1, .inl (va_cpy f g 0 0 N)))) H1 → H1.size = H.size → hLc G.size locs1 → W p l e R s m args below meth c H1 locs1 cells slots Q (F0 m (pc + 3) ls rest)) : W p l e R s m args below meth c H locs cells slots Q (F0 m pc ls (.int n :: .int 0 :: .ref a :: .int 0 :: .ref a0 :: rest)) := by
  subst hnN
  have hcl : (nI N).toNatClampNeg = N := nI_clamp hN
  have hti : (nI N).toInt = (N : Int) := nI_toInt hN
  have z0 : (0 : Int32).toInt = 0 := rfl
  intro T hT X
  have hc0 : H[a0]? = some (vp_cell c0 (n0, .inl f)) := hH.at ha0
  have hc1 : H[a]? = some (vp_cell c0 (n1, .inl g)) := hH.at ha1
  obtain ⟨-, k0, hk0, cm0, hkk0⟩ := (hK.2 t0 _ ht0).1 n0 (fun j => .int (f j))
  obtain ⟨vm', X', step⟩ := X.arraycopy hexec hown hlink hnat hstat hini (src := a0) (dst := a) (cs := vp_cell c0 (n0, .inl f)) (cd := vp_cell c0 (n1, .inl g)) (srcPos := 0) (destPos := 0) (n := nI N) (by rw [hT]; exact hc0) (by rw [hT]; exact hc1)
    (fun _ h => by cases h) (fun _ h => by cases h) (fun h => by cases h) (fun h => by cases h) hk0 hk0 hkk0 hkk0 (by simp [refKind]) (by decide) (by decide) (nI_pos hN)
    (by rw [z0, hti]; show ¬ _ > ((arrV c0 n0 (fun j => .int (f j))).slots.size : Int); rw [arrV_size]; omega)
    (by rw [z0, hti]; show ¬ _ > ((arrV c0 n1 (fun j => .int (g j))).slots.size : Int); rw [arrV_size]; omega)
    (fun vm₁ _ i hi => by
      rw [hcl] at hi
      have e9 : (vp_cell c0 (n0, .inl f)).slots.getD ((0 : Int32).toNatClampNeg + i) .null = .int (f i) := by
        show (arrV c0 n0 (fun j => .int (f j))).slots.getD _ _ = _
        rw [show (0 : Int32).toNatClampNeg + i = i from Nat.zero_add i, Array.getD_eq_getD_getElem?, arrV_read _ _ (by omega)]
        rfl
      refine ⟨?_, ?_⟩
      · rw [e9]
        exact hfit i
      · rw [e9]
        exact trivial)
    (g := F0 m pc ls (.int (nI N) :: .int 0 :: .ref a :: .int 0 :: .ref a0 :: rest)) rfl (by rw [hml]) (rest := rest) rfl (by rw [hb]; exact hdg) hframes (by show 2 * 0 + _ + _ ≤ _; omega)
  have e1 : copied (vp_cell c0 (n0, .inl f)) (vp_cell c0 (n1, .inl g)) 0 0 (nI N) = vp_cell c0 (n1, .inl (va_cpy f g 0 0 N)) := by
    have h6 : (0 : Nat) + N ≤ n0 := by omega
    have h7 := va_copied (fun z => .int z) c0 c0 (n1 := n1) (dp := 0) f g h6
    show (arrV c0 n1 (fun j => .int (g j))).storeRun 0 ((arrV c0 n0 (fun j => .int (f j))).stretch 0 (nI N).toNatClampNeg) = arrV c0 n1 (fun j => .int (va_cpy f g 0 0 N j))
    rw [hcl]
    exact h7
  rw [e1] at X' step
  have hl : a < H.size := hH.lt ha1
  have hheap : ((T.setVm vm').setCell a (vp_cell c0 (n1, .inl (va_cpy f g 0 0 N)))).heap = H.setIfInBounds a (vp_cell c0 (n1, .inl (va_cpy f g 0 0 N))) := by rw [← hT]; rfl
  have oq : ∀ q : Nat, q ≠ a → (H.setIfInBounds a (vp_cell c0 (n1, .inl (va_cpy f g 0 0 N))))[q]? = H[q]? := fun q hq => by simp [Array.getElem?_setIfInBounds, Ne.symm hq]
  obtain ⟨t, a1, b1⟩ := kk _ _ (hH.set (hH.ge ha1) (show (H.setIfInBounds a _)[a]? = some _ by simp [Array.getElem?_setIfInBounds, hl]) (by simp) oq) (by simp) (hLc_app hLo (fun q hq => by
      obtain ⟨z, -, hz⟩ := List.mem_map.mp hq
      rw [← hz]
      exact hH.ge ha1)) _ hheap X'
  exact ⟨t, step t a1, b1⟩
end HMY
section HML
variable {p : Program} {l : Launch} {e : Env} {R : Room} {s : State} {m : MethodId} {args : Array Value} {below : List Frame} {meth : Method} {c : Code} {H : Heap} {locs : List Loc} {cells slots : Nat} {Q : State → Prop}
variable {pc : Nat} {ls : Array Slot}
/-- a loop that makes cells -/
theorem hm_loopC (I : Nat → Array Slot → Heap → List Loc → hM → Nat → Nat → Prop) {st : List Value} (hs : ∀ (k : Nat) (ls : Array Slot) (H : Heap) (locs : List Loc) (hh : hM) (cs ss : Nat), I k ls H locs hh cs ss → (∀ (k2 : Nat) (ls2 : Array Slot) (H2 : Heap) (locs2 : List Loc) (hh2 : hM) (cs2 ss2 : Nat), k2 < k → I k2 ls2 H2 locs2 hh2 cs2 ss2 → W p l e R s m args below meth c H2 locs2 cs2 ss2 Q (F0 m pc ls2 st)) → W p l e R s m args below meth c H locs cs ss Q (F0 m pc ls st)) {k : Nat} {hh : hM} (hi : I k ls H locs hh cells slots) : W p l e R s m args below meth c H locs cells slots Q (F0 m pc ls st) := by
  have all : ∀ (n k : Nat), k < n → ∀ (ls : Array Slot) (H : Heap) (locs : List Loc) (hh : hM) (cs ss : Nat), I k ls H locs hh cs ss → W p l e R s m args below meth c H locs cs ss Q (F0 m pc ls st) := by
    intro n
    induction n with
    | zero => intro k hk; exact absurd hk (Nat.not_lt_zero k)
    | succ n ih =>
      intro k hk ls H locs hh cs ss hi
      exact hs k ls H locs hh cs ss hi (fun k2 ls2 H2 locs2 hh2 cs2 ss2 hlt hi2 => ih k2 (Nat.lt_of_lt_of_le hlt (Nat.le_of_lt_succ hk)) ls2 H2 locs2 hh2 cs2 ss2 hi2)
  exact all (k + 1) k (Nat.lt_succ_self k) ls H locs hh cells slots hi
end HML
theorem kp_none {M : List Nat} {h h1 : hM} {q : Nat} (k : kp M h h1) (hq : h1 q = none) (hm : q ∉ M) : h q = none := by
  cases h9 : h q with
  | none => rfl
  | some e =>
    have h2 := k q e h9 hm
    rw [hq] at h2
    cases h2
theorem kp_putN {M : List Nat} {h h1 : hM} {a : Nat} {e : va_E} (k : kp M h h1) (ha : h a = none) : kp M h (hu h1 a e) := fun b f hb hn => by
  rw [hu_n (fun q => by rw [q, ha] at hb; cases hb)]
  exact k b f hb hn
theorem kp_tr2 {M M' : List Nat} {h h1 h2 : hM} (k : kp M h h1) (k2 : kp M' h1 h2) (hs : ∀ a ∈ M', a ∈ M ∨ h a = none) : kp M h h2 := fun b f hb hn => k2 b f (k b f hb hn) (fun q => by
  rcases hs b q with h3 | h3
  · exact hn h3
  · rw [h3] at hb
    cases hb)
/-- the sort of a cell: an object, or an array of ints, longs, references -/
def akd : va_E → Nat
  | .inr _ => 9
  | .inl (_, _, .inl _) => 0
  | .inl (_, _, .inr (.inl _)) => 1
  | .inl (_, _, .inr (.inr (.inl _))) => 2
  | .inl (_, _, .inr (.inr (.inr (.inl _)))) => 3
  | .inl (_, _, .inr (.inr (.inr (.inr _)))) => 4
def aln : va_E → Nat
  | .inr _ => 0
  | .inl (_, n, _) => n
theorem h_neK {h : hM} {a b k1 k2 : Nat} {e f : va_E} (ha : h a = some e) (hb : h b = some f) (h1 : akd e = k1) (h2 : akd f = k2) (n : k1 ≠ k2) : a ≠ b := h_ne ha hb (fun q => n (by rw [← h1, ← h2, q]))
theorem h_neL {h : hM} {a b k1 k2 : Nat} {e f : va_E} (ha : h a = some e) (hb : h b = some f) (h1 : aln e = k1) (h2 : aln f = k2) (n : k1 ≠ k2) : a ≠ b := h_ne ha hb (fun q => n (by rw [← h1, ← h2, q]))
/-- a row of cells of one sort: fa's places are apart, and from k on each holds the cell e -/
def rowP (e : va_E) (fa : Nat → Option Nat) (k n : Nat) (h : hM) : Prop := (∀ i j, i < n → j < n → fa i = fa j → i = j) ∧ ∀ j, k ≤ j → j < n → ∃ a, fa j = some a ∧ h a = some e
theorem rowP_kp {e : va_E} {fa : Nat → Option Nat} {k n : Nat} {h h' : hM} {M : List Nat} (hs : rowP e fa k n h) (hk : kp M h h') (hM : ∀ a ∈ M, h a ≠ some e) : rowP e fa k n h' := ⟨hs.1, fun j h1 h2 => by
  obtain ⟨a, g1, g2⟩ := hs.2 j h1 h2
  exact ⟨a, g1, hk a e g2 (fun q => hM a q g2)⟩⟩
theorem rowP_put {e e' : va_E} {fa : Nat → Option Nat} {k n a : Nat} {h : hM} (hs : rowP e fa k n h) (ha : h a ≠ some e) : rowP e fa k n (hu h a e') := ⟨hs.1, fun j h1 h2 => by
  obtain ⟨b, g1, g2⟩ := hs.2 j h1 h2
  exact ⟨b, g1, by rw [hu_n (fun q => ha (by rw [← q]; exact g2))]; exact g2⟩⟩
theorem rowP_next {e : va_E} {fa : Nat → Option Nat} {k n a : Nat} {h h' : hM} {M : List Nat} (hs : rowP e fa k n h) (hk : k < n) (ha : fa k = some a) (hkp : kp (a :: M) h h') (hM : ∀ b ∈ M, h b ≠ some e) : rowP e fa (k + 1) n h' := ⟨hs.1, fun j h1 h2 => by
  obtain ⟨b, g1, g2⟩ := hs.2 j (by omega) h2
  refine ⟨b, g1, hkp b e g2 (fun q => ?_)⟩
  rcases List.mem_cons.mp q with h3 | h3
  · have := hs.1 j k h2 hk (by rw [g1, ha, h3])
    omega
  · exact hM b h3 g2⟩
theorem rowP_mono {e : va_E} {fa : Nat → Option Nat} {k k2 n : Nat} {h : hM} (hs : rowP e fa k n h) (hk : k ≤ k2) : rowP e fa k2 n h := ⟨hs.1, fun j h1 h2 => hs.2 j (Nat.le_trans hk h1) h2⟩
/-! what stays but for cells that hold E (blank sectors, which may be written) -/
def kx (E : va_E) (M : List Nat) (h h' : hM) : Prop := ∀ (b : Nat) (e : va_E), h b = some e → b ∉ M → e ≠ E → h' b = some e
theorem kx_rf {E : va_E} {M : List Nat} {h : hM} : kx E M h h := fun _ _ hb _ _ => hb
theorem kx_put {E : va_E} {M : List Nat} {h h1 : hM} {a : Nat} {e : va_E} (k : kx E M h h1) (ha : a ∈ M) : kx E M h (hu h1 a e) := fun b f hb hn he => by
  rw [hu_n (fun q => hn (by rw [q]; exact ha))]
  exact k b f hb hn he
theorem kx_trp {E : va_E} {M M' : List Nat} {h h1 h2 : hM} (k : kx E M h h1) (k2 : kp M' h1 h2) (hs : ∀ a ∈ M', a ∈ M ∨ h a = none) : kx E M h h2 := fun b f hb hn he => k2 b f (k b f hb hn he) (fun q => by
  rcases hs b q with h3 | h3
  · exact hn h3
  · rw [h3] at hb
    cases hb)
theorem kx_trx {E : va_E} {M M' : List Nat} {h h1 h2 : hM} (k : kx E M h h1) (k2 : kx E M' h1 h2) (hs : ∀ a ∈ M', a ∈ M ∨ h a = none) : kx E M h h2 := fun b f hb hn he => k2 b f (k b f hb hn he) (fun q => by
  rcases hs b q with h3 | h3
  · exact hn h3
  · rw [h3] at hb
    cases hb) he
theorem kx_at {E : va_E} {M : List Nat} {h h1 : hM} {b : Nat} {e : va_E} (k : kx E M h h1) (hb : h b = some e) (hn : b ∉ M) (he : e ≠ E) : h1 b = some e := k b e hb hn he
theorem kx_of {E : va_E} {M : List Nat} {h h1 : hM} {a : Nat} (k : kp (a :: M) h h1) (ha : h a = some E) : kx E M h h1 := fun b f hb hn he => k b f hb (fun q => by
  rcases List.mem_cons.mp q with h3 | h3
  · rw [h3, ha] at hb
    exact he (Option.some.inj hb).symm
  · exact hn h3)
end
section
/-! the tables: array classes, nest links, arrays of references -/
abbrev tyG (t : Nat → ClassId) : List (ClassId × FieldType) := [(t 0, .byte), (t 1, .boolean), (t 2, .int), (t 3, .long), (t 4, .object "WriteOnceDisc$Node"), (t 5, .object "WriteOnceDisc$Sector")]
def nFl : List (String × Nat × String × String × String × String) := []
def nMl : List (String × Nat × MethodName × String) := [(R_Di, 9, y_Wr_init, "WriteOnceDisc"), (R_Wr, 11, y_Po_init, "WriteOnceDisc"), (R_Di, 18, y_Re_init, "WriteOnceDisc"), (R_Re, 22, y_No_init, "WriteOnceDisc"), (R_Ns, 27, y_No_init, "WriteOnceDisc"), (R_Me, 21, y_Se_init, "WriteOnceDisc"), (R_Wr, 63, y_Di_sectorsFor, "WriteOnceDisc"), (R_Pg, 121, y_Di_evened, "WriteOnceDisc"), (R_Re, 148, y_Di_evened, "WriteOnceDisc"), (R_Re, 168, y_Di_sectorsFor, "WriteOnceDisc"), (R_Re, 161, y_Di_isNameByte, "WriteOnceDisc"), (R_No, 60, y_Di_sectorsFor, "WriteOnceDisc")]
theorem nM_0 : (R_Di, 9, y_Wr_init, "WriteOnceDisc") ∈ nMl := List.mem_of_getElem? (i := 0) rfl
theorem nM_1 : (R_Wr, 11, y_Po_init, "WriteOnceDisc") ∈ nMl := List.mem_of_getElem? (i := 1) rfl
theorem nM_2 : (R_Di, 18, y_Re_init, "WriteOnceDisc") ∈ nMl := List.mem_of_getElem? (i := 2) rfl
theorem nM_3 : (R_Re, 22, y_No_init, "WriteOnceDisc") ∈ nMl := List.mem_of_getElem? (i := 3) rfl
theorem nM_4 : (R_Ns, 27, y_No_init, "WriteOnceDisc") ∈ nMl := List.mem_of_getElem? (i := 4) rfl
theorem nM_5 : (R_Me, 21, y_Se_init, "WriteOnceDisc") ∈ nMl := List.mem_of_getElem? (i := 5) rfl
theorem nM_6 : (R_Wr, 63, y_Di_sectorsFor, "WriteOnceDisc") ∈ nMl := List.mem_of_getElem? (i := 6) rfl
theorem nM_7 : (R_Pg, 121, y_Di_evened, "WriteOnceDisc") ∈ nMl := List.mem_of_getElem? (i := 7) rfl
theorem nM_8 : (R_Re, 148, y_Di_evened, "WriteOnceDisc") ∈ nMl := List.mem_of_getElem? (i := 8) rfl
theorem nM_9 : (R_Re, 168, y_Di_sectorsFor, "WriteOnceDisc") ∈ nMl := List.mem_of_getElem? (i := 9) rfl
theorem nM_10 : (R_Re, 161, y_Di_isNameByte, "WriteOnceDisc") ∈ nMl := List.mem_of_getElem? (i := 10) rfl
theorem nM_11 : (R_No, 60, y_Di_sectorsFor, "WriteOnceDisc") ∈ nMl := List.mem_of_getElem? (i := 11) rfl
def kA (G : Heap) : Nat → Prop := fun q => G.size ≤ q
def sLen : List Nat := [5, 4]
def sByt : List (List Int32) := [[67, 68, 48, 48, 49], [77, 65, 82, 75]]
/-- the literals that a page writes, and two statics of the JDK: they lie in the old heap -/
def kS (G : Heap) (ak av : Nat → Nat) (U : State) : Prop := vk_S 2 sLen sByt ak av (kA G) U G ∧ vk_R R_Pg 38 "CD001" (ak 0) U ∧ vk_R R_Pg 44 "MARK" (ak 1) U ∧ va_Z R_St "COMPACT_STRINGS" "Z" (.int 1) (kA G) U G ∧ va_Zq R_Pr "SIOOBE_FORMATTER" "Ljava/util/function/BiFunction;" (kA G) U G
def kE (D : va_G) (t : Nat → ClassId) (G : Heap) (ak av : Nat → Nat) (U : State) : Prop :=
  va_K D vwCl (tyG t) U ∧ (∀ q ∈ nFl, va_Nw (.fieldLinkNest q.1 q.2.1 q.2.2.1 q.2.2.2.1 q.2.2.2.2.1 q.2.2.2.2.2) U) ∧ (∀ q ∈ nMl, va_Nw (.methodLinkNest q.1 q.2.1 q.2.2.1 q.2.2.2) U) ∧ (∀ C ∈ (["WriteOnceDisc$Node", "WriteOnceDisc$Sector"] : List String), va_AO C U) ∧ kS G ak av U
theorem kE_ok {D : va_G} {t : Nat → ClassId} {G : Heap} {ak av : Nat → Nat} : hKok (kE D t G ak av) :=
  ⟨fun U g mk a k => ⟨va_K.moved (u := U) (U := U.calling g mk a) (Vm.Alike.refl U.vm) k.1, fun q hq => va_Nw.same (u := U) rfl rfl (k.2.1 q hq), fun q hq => va_Nw.same (u := U) rfl rfl (k.2.2.1 q hq), fun C hC => va_AO.moved (u := U) (Vm.Alike.refl U.vm) (k.2.2.2.1 C hC), vk_S.moved (u := U) (Vm.Alike.refl U.vm) k.2.2.2.2.1, vk_R.same (u := U) rfl k.2.2.2.2.2.1, vk_R.same (u := U) rfl k.2.2.2.2.2.2.1, va_Z.moved (u := U) (Vm.Alike.refl U.vm) k.2.2.2.2.2.2.2.1, va_Zq.moved (u := U) (Vm.Alike.refl U.vm) k.2.2.2.2.2.2.2.2⟩,
   fun s U hW k => ⟨va_K.moved hW.alike k.1, fun q hq => va_Nw.warmF hW (k.2.1 q hq), fun q hq => va_Nw.warmM hW (k.2.2.1 q hq), fun C hC => va_AO.moved hW.alike (k.2.2.2.1 C hC), vk_S.moved hW.alike k.2.2.2.2.1, vk_R.warm hW k.2.2.2.2.2.1, vk_R.warm hW k.2.2.2.2.2.2.1, va_Z.moved hW.alike k.2.2.2.2.2.2.2.1, va_Zq.moved hW.alike k.2.2.2.2.2.2.2.2⟩⟩
theorem nfU {D : va_G} {t : Nat → ClassId} {G : Heap} {ak av : Nat → Nat} {s : State} {args : Array Value} (hE : kE D t G ak av s) {q : String × Nat × String × String × String × String} (hq : q ∈ nFl) : (Cond.fieldLinkNest q.1 q.2.1 q.2.2.1 q.2.2.2.1 q.2.2.2.2.1 q.2.2.2.2.2).before args s = true := va_Nw.use rfl (hE.2.1 q hq)
theorem nmU {D : va_G} {t : Nat → ClassId} {G : Heap} {ak av : Nat → Nat} {s : State} (hE : kE D t G ak av s) {q : String × Nat × MethodName × String} (hq : q ∈ nMl) : va_Nw (.methodLinkNest q.1 q.2.1 q.2.2.1 q.2.2.2) s := hE.2.2.1 q hq
theorem S9 {D : va_G} {cl : List vw_C} {G : Heap} {h h' : hM} {s : State} {H : Heap} {locs : List Loc} (h0 : hm D cl G h s.heap) (h1 : hm D cl G h' H) (hz : s.heap.size ≤ H.size) (hLo : hLc G.size locs) : va_S (kA G) s.heap H locs :=
  ⟨hz, fun q _ hq => by rw [h1.1.2 q (Nat.not_le.mp hq), h0.1.2 q (Nat.not_le.mp hq)], hLo⟩
theorem K9 {D : va_G} {cl : List vw_C} {G : Heap} {h : hM} {s : State} {ak av : Nat → Nat} (hS : kS G ak av s) (h0 : hm D cl G h s.heap) : vk_S 2 sLen sByt ak av (kA G) s s.heap := hS.1.kept (fun a ha _ => h0.1.2 a ha)
theorem C9 {D : va_G} {cl : List vw_C} {G : Heap} {h : hM} {s : State} {ak av : Nat → Nat} (hS : kS G ak av s) (h0 : hm D cl G h s.heap) : va_Z R_St "COMPACT_STRINGS" "Z" (.int 1) (kA G) s s.heap := hS.2.2.2.1.kept (fun a ha _ => h0.1.2 a ha)
theorem Q9 {D : va_G} {cl : List vw_C} {G : Heap} {h : hM} {s : State} {ak av : Nat → Nat} (hS : kS G ak av s) (h0 : hm D cl G h s.heap) : va_Zq R_Pr "SIOOBE_FORMATTER" "Ljava/util/function/BiFunction;" (kA G) s s.heap := hS.2.2.2.2.kept (fun a ha _ => h0.1.2 a ha)
/-- a call on a String of the old heap -/
theorem hP_W {K : State → Prop} {D : va_G} {cl : List vw_C} {G : Heap} {h : hM} {s : State} {H : Heap} {As : List Value} {C : String} {b : Nat} (ok : hKok K) (hk : K s) (hH : hm D cl G h H) (hr : ∃ cellB : Cell, H[b]? = some cellB ∧ cellB.vm.isStatics = false ∧ s.vm.findClass C = some cellB.cls) : PreV s H C b (hP K D cl G h (.ref b :: As)) As :=
  ⟨fun a U g mk q => ⟨q.1, ok.1 U g mk a q.2.1, q.2.2⟩, hr, fun U hU hW => ⟨rfl, ok.2 s U hW hk, by rw [hU]; exact hH⟩⟩
/-- a page's bytes -/
def pgF (t : Nat → ClassId) (h : hM) (pb n : Nat) : Prop := ∃ f : Nat → Int32, sb_Fit f ∧ h pb = some (.inl (t 0, n, .inl f))
theorem gd_Me : ∀ w ∈ u_ws R_Me F_Me 2, goodWord w = true := by decide +kernel
theorem ig_Me : ∀ w ∈ u_ws R_Me F_Me 2, w ∈ lw_g := fun w hw => lw_gin (List.mem_append_right _ ((by decide +kernel : ∀ w ∈ u_ws R_Me F_Me 2, w ∈ tables_1) w hw)) (gd_Me w hw)
theorem df_Me : ∀ j, j < 2 → defaultValue (t_Me j) = vp_V [.null, .int 0] j := fun j hj => by
  rcases (show j = 0 ∨ j = 1 by omega) with rfl | rfl <;> rfl
theorem gd_No : ∀ w ∈ u_ws R_No F_No 11, goodWord w = true := by decide +kernel
theorem ig_No : ∀ w ∈ u_ws R_No F_No 11, w ∈ lw_g := fun w hw => lw_gin (List.mem_append_right _ ((by decide +kernel : ∀ w ∈ u_ws R_No F_No 11, w ∈ tables_1) w hw)) (gd_No w hw)
theorem df_No : ∀ j, j < 11 → defaultValue (t_No j) = vp_V [.int 0, .null, .int 0, .long 0, .int 0, .int 0, .int 0, .int 0, .int 0, .int 0, .int 0] j := fun j hj => by
  rcases (show j = 0 ∨ j = 1 ∨ j = 2 ∨ j = 3 ∨ j = 4 ∨ j = 5 ∨ j = 6 ∨ j = 7 ∨ j = 8 ∨ j = 9 ∨ j = 10 by omega) with rfl | rfl | rfl | rfl | rfl | rfl | rfl | rfl | rfl | rfl | rfl <;> rfl
theorem gd_Ns : ∀ w ∈ u_ws R_Ns F_Ns 4, goodWord w = true := by decide +kernel
theorem ig_Ns : ∀ w ∈ u_ws R_Ns F_Ns 4, w ∈ lw_g := fun w hw => lw_gin (List.mem_append_right _ ((by decide +kernel : ∀ w ∈ u_ws R_Ns F_Ns 4, w ∈ tables_1) w hw)) (gd_Ns w hw)
theorem df_Ns : ∀ j, j < 4 → defaultValue (t_Ns j) = vp_V [.null, .null, .int 0, .int 0] j := fun j hj => by
  rcases (show j = 0 ∨ j = 1 ∨ j = 2 ∨ j = 3 by omega) with rfl | rfl | rfl | rfl <;> rfl
theorem gd_Pg : ∀ w ∈ u_ws R_Pg F_Pg 1, goodWord w = true := by decide +kernel
theorem ig_Pg : ∀ w ∈ u_ws R_Pg F_Pg 1, w ∈ lw_g := fun w hw => lw_gin (List.mem_append_right _ ((by decide +kernel : ∀ w ∈ u_ws R_Pg F_Pg 1, w ∈ tables_1) w hw)) (gd_Pg w hw)
theorem df_Pg : ∀ j, j < 1 → defaultValue (t_Pg j) = vp_V [.null] j := fun j hj => by
  rcases (show j = 0 by omega) with rfl <;> rfl
theorem gd_Po : ∀ w ∈ u_ws R_Po F_Po 3, goodWord w = true := by decide +kernel
theorem ig_Po : ∀ w ∈ u_ws R_Po F_Po 3, w ∈ lw_g := fun w hw => lw_gin (List.mem_append_right _ ((by decide +kernel : ∀ w ∈ u_ws R_Po F_Po 3, w ∈ tables_1) w hw)) (gd_Po w hw)
theorem df_Po : ∀ j, j < 3 → defaultValue (t_Po j) = vp_V [.int 0, .int 0, .int 0] j := fun j hj => by
  rcases (show j = 0 ∨ j = 1 ∨ j = 2 by omega) with rfl | rfl | rfl <;> rfl
theorem gd_Re : ∀ w ∈ u_ws R_Re F_Re 5, goodWord w = true := by decide +kernel
theorem ig_Re : ∀ w ∈ u_ws R_Re F_Re 5, w ∈ lw_g := fun w hw => lw_gin (List.mem_append_right _ ((by decide +kernel : ∀ w ∈ u_ws R_Re F_Re 5, w ∈ tables_1) w hw)) (gd_Re w hw)
theorem df_Re : ∀ j, j < 5 → defaultValue (t_Re j) = vp_V [.null, .null, .null, .null, .int 0] j := fun j hj => by
  rcases (show j = 0 ∨ j = 1 ∨ j = 2 ∨ j = 3 ∨ j = 4 by omega) with rfl | rfl | rfl | rfl | rfl <;> rfl
theorem gd_Se : ∀ w ∈ u_ws R_Se F_Se 3, goodWord w = true := by decide +kernel
theorem ig_Se : ∀ w ∈ u_ws R_Se F_Se 3, w ∈ lw_g := fun w hw => lw_gin (List.mem_append_right _ ((by decide +kernel : ∀ w ∈ u_ws R_Se F_Se 3, w ∈ tables_1) w hw)) (gd_Se w hw)
theorem df_Se : ∀ j, j < 3 → defaultValue (t_Se j) = vp_V [.int 0, .int 0, .null] j := fun j hj => by
  rcases (show j = 0 ∨ j = 1 ∨ j = 2 by omega) with rfl | rfl | rfl <;> rfl
theorem gd_Wr : ∀ w ∈ u_ws R_Wr F_Wr 2, goodWord w = true := by decide +kernel
theorem ig_Wr : ∀ w ∈ u_ws R_Wr F_Wr 2, w ∈ lw_g := fun w hw => lw_gin (List.mem_append_right _ ((by decide +kernel : ∀ w ∈ u_ws R_Wr F_Wr 2, w ∈ tables_1) w hw)) (gd_Wr w hw)
theorem df_Wr : ∀ j, j < 2 → defaultValue (t_Wr j) = vp_V [.null, .null] j := fun j hj => by
  rcases (show j = 0 ∨ j = 1 by omega) with rfl | rfl <;> rfl
theorem gd_Di : ∀ w ∈ u_ws R_Di F_Di 9, goodWord w = true := by decide +kernel
theorem ig_Di : ∀ w ∈ u_ws R_Di F_Di 9, w ∈ lw_g := fun w hw => lw_gin (List.mem_append_right _ ((by decide +kernel : ∀ w ∈ u_ws R_Di F_Di 9, w ∈ tables_1) w hw)) (gd_Di w hw)
theorem df_Di : ∀ j, j < 9 → defaultValue (t_Di j) = vp_V [.null, .null, .null, .null, .null, .int 0, .int 0, .null, .null] j := fun j hj => by
  rcases (show j = 0 ∨ j = 1 ∨ j = 2 ∨ j = 3 ∨ j = 4 ∨ j = 5 ∨ j = 6 ∨ j = 7 ∨ j = 8 by omega) with rfl | rfl | rfl | rfl | rfl | rfl | rfl | rfl | rfl <;> rfl
theorem gd_Mo : ∀ w ∈ u_ws R_Mo F_Mo 41, goodWord w = true := by decide +kernel
theorem ig_Mo : ∀ w ∈ u_ws R_Mo F_Mo 41, w ∈ lw_g := fun w hw => lw_gin (List.mem_append_right _ ((by decide +kernel : ∀ w ∈ u_ws R_Mo F_Mo 41, w ∈ tables_1) w hw)) (gd_Mo w hw)
theorem df_Mo : ∀ j, j < 41 → defaultValue (t_Mo j) = vp_V [.int 0, .int 0, .int 0, .null, .null, .null, .int 0, .int 0, .int 0, .null, .int 0, .null, .null, .null, .null, .null, .null, .null, .null, .null, .int 0, .null, .int 0, .int 0, .null, .null, .null, .int 0, .int 0, .null, .null, .null, .null, .null, .null, .int 0, .null, .null, .null, .null, .null] j := fun j hj => by
  rcases (show j = 0 ∨ j = 1 ∨ j = 2 ∨ j = 3 ∨ j = 4 ∨ j = 5 ∨ j = 6 ∨ j = 7 ∨ j = 8 ∨ j = 9 ∨ j = 10 ∨ j = 11 ∨ j = 12 ∨ j = 13 ∨ j = 14 ∨ j = 15 ∨ j = 16 ∨ j = 17 ∨ j = 18 ∨ j = 19 ∨ j = 20 ∨ j = 21 ∨ j = 22 ∨ j = 23 ∨ j = 24 ∨ j = 25 ∨ j = 26 ∨ j = 27 ∨ j = 28 ∨ j = 29 ∨ j = 30 ∨ j = 31 ∨ j = 32 ∨ j = 33 ∨ j = 34 ∨ j = 35 ∨ j = 36 ∨ j = 37 ∨ j = 38 ∨ j = 39 ∨ j = 40 by omega) with rfl | rfl | rfl | rfl | rfl | rfl | rfl | rfl | rfl | rfl | rfl | rfl | rfl | rfl | rfl | rfl | rfl | rfl | rfl | rfl | rfl | rfl | rfl | rfl | rfl | rfl | rfl | rfl | rfl | rfl | rfl | rfl | rfl | rfl | rfl | rfl | rfl | rfl | rfl | rfl | rfl <;> rfl
end
section
set_option maxRecDepth 100000 in
theorem mw_0 : Cond.methodLink R_Po 3 objectInit ∈ lw_g := lw_gin (List.mem_append_right _ (List.mem_of_getElem? (i := 41) rfl)) (by decide +kernel)
set_option maxRecDepth 100000 in
theorem mw_1 : Cond.instanceMethod objectInit ∈ lw_g := lw_gin (List.mem_append_right _ (List.mem_of_getElem? (i := 28) rfl)) (by decide +kernel)
set_option maxRecDepth 100000 in
theorem mw_2 : Cond.code objectInit ⟨#[0xb1]⟩ 1 none ∈ lw_g := lw_gin (List.mem_append_right _ (List.mem_of_getElem? (i := 29) rfl)) (by decide +kernel)
set_option maxRecDepth 100000 in
theorem mw_3 : Cond.fieldLink R_Po 9 "WriteOnceDisc$Power" "left" "I" ∈ lw_g := lw_gin (List.mem_append_right _ (List.mem_of_getElem? (i := 42) rfl)) (by decide +kernel)
set_option maxRecDepth 100000 in
theorem mw_4 : Cond.fieldLink R_Po 15 "WriteOnceDisc$Power" "isLost" "Z" ∈ lw_g := lw_gin (List.mem_append_right _ (List.mem_of_getElem? (i := 44) rfl)) (by decide +kernel)
set_option maxRecDepth 100000 in
theorem mw_5 : Cond.fieldLink R_Po 19 "WriteOnceDisc$Power" "spent" "I" ∈ lw_g := lw_gin (List.mem_append_right _ (List.mem_of_getElem? (i := 46) rfl)) (by decide +kernel)
set_option maxRecDepth 100000 in
theorem mw_6 : Cond.methodLink R_Se 3 objectInit ∈ lw_g := lw_gin (List.mem_append_right _ (List.mem_of_getElem? (i := 209) rfl)) (by decide +kernel)
set_option maxRecDepth 100000 in
theorem mw_7 : Cond.fieldLink R_Se 9 "WriteOnceDisc$Sector" "condition" "I" ∈ lw_g := lw_gin (List.mem_append_right _ (List.mem_of_getElem? (i := 210) rfl)) (by decide +kernel)
set_option maxRecDepth 100000 in
theorem mw_8 : Cond.fieldLink R_Se 15 "WriteOnceDisc$Sector" "isDefective" "Z" ∈ lw_g := lw_gin (List.mem_append_right _ (List.mem_of_getElem? (i := 213) rfl)) (by decide +kernel)
set_option maxRecDepth 100000 in
theorem mw_9 : Cond.fieldLink R_Se 19 "WriteOnceDisc$Sector" "bytes" "[B" ∈ lw_g := lw_gin (List.mem_append_right _ (List.mem_of_getElem? (i := 215) rfl)) (by decide +kernel)
set_option maxRecDepth 100000 in
theorem mw_10 : Cond.methodLink R_No 3 objectInit ∈ lw_g := lw_gin (List.mem_append_right _ (List.mem_of_getElem? (i := 89) rfl)) (by decide +kernel)
set_option maxRecDepth 100000 in
theorem mw_11 : Cond.fieldLink R_No 9 "WriteOnceDisc$Node" "number" "I" ∈ lw_g := lw_gin (List.mem_append_right _ (List.mem_of_getElem? (i := 90) rfl)) (by decide +kernel)
set_option maxRecDepth 100000 in
theorem mw_12 : Cond.fieldLink R_No 15 "WriteOnceDisc$Node" "parent" "LWriteOnceDisc$Node;" ∈ lw_g := lw_gin (List.mem_append_right _ (List.mem_of_getElem? (i := 93) rfl)) (by decide +kernel)
set_option maxRecDepth 100000 in
theorem mw_13 : Cond.fieldLink R_No 19 "WriteOnceDisc$Node" "isDirectory" "Z" ∈ lw_g := lw_gin (List.mem_append_right _ (List.mem_of_getElem? (i := 98) rfl)) (by decide +kernel)
set_option maxRecDepth 100000 in
theorem mw_14 : Cond.fieldLink R_No 23 "WriteOnceDisc$Node" "word" "J" ∈ lw_g := lw_gin (List.mem_append_right _ (List.mem_of_getElem? (i := 104) rfl)) (by decide +kernel)
set_option maxRecDepth 100000 in
theorem mw_15 : Cond.fieldLink R_No 27 "WriteOnceDisc$Node" "letters" "I" ∈ lw_g := lw_gin (List.mem_append_right _ (List.mem_of_getElem? (i := 107) rfl)) (by decide +kernel)
set_option maxRecDepth 100000 in
theorem mw_16 : Cond.fieldLink R_No 30 "WriteOnceDisc$Node" "size" "I" ∈ lw_g := lw_gin (List.mem_append_right _ (List.mem_of_getElem? (i := 109) rfl)) (by decide +kernel)
set_option maxRecDepth 100000 in
theorem mw_17 : Cond.fieldLink R_No 33 "WriteOnceDisc$Node" "seed" "I" ∈ lw_g := lw_gin (List.mem_append_right _ (List.mem_of_getElem? (i := 114) rfl)) (by decide +kernel)
set_option maxRecDepth 100000 in
theorem mw_18 : Cond.fieldLink R_No 36 "WriteOnceDisc$Node" "isWritten" "Z" ∈ lw_g := lw_gin (List.mem_append_right _ (List.mem_of_getElem? (i := 116) rfl)) (by decide +kernel)
set_option maxRecDepth 100000 in
theorem mw_19 : Cond.fieldLink R_No 39 "WriteOnceDisc$Node" "extent" "I" ∈ lw_g := lw_gin (List.mem_append_right _ (List.mem_of_getElem? (i := 119) rfl)) (by decide +kernel)
set_option maxRecDepth 100000 in
theorem mw_20 : Cond.fieldLink R_No 42 "WriteOnceDisc$Node" "sector" "I" ∈ lw_g := lw_gin (List.mem_append_right _ (List.mem_of_getElem? (i := 123) rfl)) (by decide +kernel)
set_option maxRecDepth 100000 in
theorem mw_21 : Cond.fieldLink R_No 45 "WriteOnceDisc$Node" "numberInPathTable" "I" ∈ lw_g := lw_gin (List.mem_append_right _ (List.mem_of_getElem? (i := 129) rfl)) (by decide +kernel)
set_option maxRecDepth 100000 in
theorem mw_22 : Cond.methodLink R_Pg 3 objectInit ∈ lw_g := lw_gin (List.mem_append_right _ (List.mem_of_getElem? (i := 60) rfl)) (by decide +kernel)
set_option maxRecDepth 100000 in
theorem mw_23 : Cond.arrayClass .byte ∈ lw_g := lw_gin (List.mem_append_right _ (List.mem_of_getElem? (i := 67) rfl)) (by decide +kernel)
set_option maxRecDepth 100000 in
theorem mw_24 : Cond.fieldLink R_Pg 9 "WriteOnceDisc$Page" "bytes" "[B" ∈ lw_g := lw_gin (List.mem_append_right _ (List.mem_of_getElem? (i := 61) rfl)) (by decide +kernel)
theorem d_Po_init_0 : decode b_Po_init 0 = .ok (.aload_n 0, 1) := by decide +kernel
theorem d_Po_init_1 : decode b_Po_init 1 = .ok (.invokespecial 3, 3) := by decide +kernel
theorem d_Po_init_4 : decode b_Po_init 4 = .ok (.aload_n 0, 1) := by decide +kernel
theorem d_Po_init_5 : decode b_Po_init 5 = .ok (.iconst (-1), 1) := by decide +kernel
theorem d_Po_init_6 : decode b_Po_init 6 = .ok (.putfield 9, 3) := by decide +kernel
theorem d_Po_init_9 : decode b_Po_init 9 = .ok (.aload_n 0, 1) := by decide +kernel
theorem d_Po_init_10 : decode b_Po_init 10 = .ok (.iconst 0, 1) := by decide +kernel
theorem d_Po_init_11 : decode b_Po_init 11 = .ok (.putfield 15, 3) := by decide +kernel
theorem d_Po_init_14 : decode b_Po_init 14 = .ok (.aload_n 0, 1) := by decide +kernel
theorem d_Po_init_15 : decode b_Po_init 15 = .ok (.iconst 0, 1) := by decide +kernel
theorem d_Po_init_16 : decode b_Po_init 16 = .ok (.putfield 19, 3) := by decide +kernel
theorem d_Po_init_19 : decode b_Po_init 19 = .ok (.return_, 1) := by decide +kernel
theorem d_Se_init_0 : decode b_Se_init 0 = .ok (.aload_n 0, 1) := by decide +kernel
theorem d_Se_init_1 : decode b_Se_init 1 = .ok (.invokespecial 3, 3) := by decide +kernel
theorem d_Se_init_4 : decode b_Se_init 4 = .ok (.aload_n 0, 1) := by decide +kernel
theorem d_Se_init_5 : decode b_Se_init 5 = .ok (.iconst 0, 1) := by decide +kernel
theorem d_Se_init_6 : decode b_Se_init 6 = .ok (.putfield 9, 3) := by decide +kernel
theorem d_Se_init_9 : decode b_Se_init 9 = .ok (.aload_n 0, 1) := by decide +kernel
theorem d_Se_init_10 : decode b_Se_init 10 = .ok (.iconst 0, 1) := by decide +kernel
theorem d_Se_init_11 : decode b_Se_init 11 = .ok (.putfield 15, 3) := by decide +kernel
theorem d_Se_init_14 : decode b_Se_init 14 = .ok (.aload_n 0, 1) := by decide +kernel
theorem d_Se_init_15 : decode b_Se_init 15 = .ok (.aconst_null, 1) := by decide +kernel
theorem d_Se_init_16 : decode b_Se_init 16 = .ok (.putfield 19, 3) := by decide +kernel
theorem d_Se_init_19 : decode b_Se_init 19 = .ok (.return_, 1) := by decide +kernel
theorem d_No_init_0 : decode b_No_init 0 = .ok (.aload_n 0, 1) := by decide +kernel
theorem d_No_init_1 : decode b_No_init 1 = .ok (.invokespecial 3, 3) := by decide +kernel
theorem d_No_init_4 : decode b_No_init 4 = .ok (.aload_n 0, 1) := by decide +kernel
theorem d_No_init_5 : decode b_No_init 5 = .ok (.iconst 0, 1) := by decide +kernel
theorem d_No_init_6 : decode b_No_init 6 = .ok (.putfield 9, 3) := by decide +kernel
theorem d_No_init_9 : decode b_No_init 9 = .ok (.aload_n 0, 1) := by decide +kernel
theorem d_No_init_10 : decode b_No_init 10 = .ok (.aconst_null, 1) := by decide +kernel
theorem d_No_init_11 : decode b_No_init 11 = .ok (.putfield 15, 3) := by decide +kernel
theorem d_No_init_14 : decode b_No_init 14 = .ok (.aload_n 0, 1) := by decide +kernel
theorem d_No_init_15 : decode b_No_init 15 = .ok (.iconst 1, 1) := by decide +kernel
theorem d_No_init_16 : decode b_No_init 16 = .ok (.putfield 19, 3) := by decide +kernel
theorem d_No_init_19 : decode b_No_init 19 = .ok (.aload_n 0, 1) := by decide +kernel
theorem d_No_init_20 : decode b_No_init 20 = .ok (.lconst 0, 1) := by decide +kernel
theorem d_No_init_21 : decode b_No_init 21 = .ok (.putfield 23, 3) := by decide +kernel
theorem d_No_init_24 : decode b_No_init 24 = .ok (.aload_n 0, 1) := by decide +kernel
theorem d_No_init_25 : decode b_No_init 25 = .ok (.iconst 0, 1) := by decide +kernel
theorem d_No_init_26 : decode b_No_init 26 = .ok (.putfield 27, 3) := by decide +kernel
theorem d_No_init_29 : decode b_No_init 29 = .ok (.aload_n 0, 1) := by decide +kernel
theorem d_No_init_30 : decode b_No_init 30 = .ok (.iconst 0, 1) := by decide +kernel
theorem d_No_init_31 : decode b_No_init 31 = .ok (.putfield 30, 3) := by decide +kernel
theorem d_No_init_34 : decode b_No_init 34 = .ok (.aload_n 0, 1) := by decide +kernel
theorem d_No_init_35 : decode b_No_init 35 = .ok (.iconst 0, 1) := by decide +kernel
theorem d_No_init_36 : decode b_No_init 36 = .ok (.putfield 33, 3) := by decide +kernel
theorem d_No_init_39 : decode b_No_init 39 = .ok (.aload_n 0, 1) := by decide +kernel
theorem d_No_init_40 : decode b_No_init 40 = .ok (.iconst 0, 1) := by decide +kernel
theorem d_No_init_41 : decode b_No_init 41 = .ok (.putfield 36, 3) := by decide +kernel
theorem d_No_init_44 : decode b_No_init 44 = .ok (.aload_n 0, 1) := by decide +kernel
theorem d_No_init_45 : decode b_No_init 45 = .ok (.iconst 0, 1) := by decide +kernel
theorem d_No_init_46 : decode b_No_init 46 = .ok (.putfield 39, 3) := by decide +kernel
theorem d_No_init_49 : decode b_No_init 49 = .ok (.aload_n 0, 1) := by decide +kernel
theorem d_No_init_50 : decode b_No_init 50 = .ok (.iconst 0, 1) := by decide +kernel
theorem d_No_init_51 : decode b_No_init 51 = .ok (.putfield 42, 3) := by decide +kernel
theorem d_No_init_54 : decode b_No_init 54 = .ok (.aload_n 0, 1) := by decide +kernel
theorem d_No_init_55 : decode b_No_init 55 = .ok (.iconst 1, 1) := by decide +kernel
theorem d_No_init_56 : decode b_No_init 56 = .ok (.putfield 45, 3) := by decide +kernel
theorem d_No_init_59 : decode b_No_init 59 = .ok (.return_, 1) := by decide +kernel
theorem d_Pg_init_0 : decode b_Pg_init 0 = .ok (.aload_n 0, 1) := by decide +kernel
theorem d_Pg_init_1 : decode b_Pg_init 1 = .ok (.invokespecial 3, 3) := by decide +kernel
theorem d_Pg_init_4 : decode b_Pg_init 4 = .ok (.aload_n 0, 1) := by decide +kernel
theorem d_Pg_init_5 : decode b_Pg_init 5 = .ok (.iload_n 1, 1) := by decide +kernel
theorem d_Pg_init_6 : decode b_Pg_init 6 = .ok (.newarray .byte, 2) := by decide +kernel
theorem d_Pg_init_8 : decode b_Pg_init 8 = .ok (.putfield 9, 3) := by decide +kernel
theorem d_Pg_init_11 : decode b_Pg_init 11 = .ok (.return_, 1) := by decide +kernel
set_option maxHeartbeats 4000000 in
set_option maxRecDepth 100000 in
theorem c_Power_init (l : Launch) (D : va_G) (t : Nat → ClassId) (G : Heap) (ak av : Nat → Nat) (h : hM) (h0 : Nat) (f_h0 : h h0 = some (.inr (4, [.int 0, .int 0, .int 0]))) : Met l y_Po_init (.code y_Po_init b_Po_init 1 none :: lw_g) { frames := 1, cells := 0, slots := 0, locals := 12 } (hP (kE D t G ak av) D vwCl G h [.ref h0]) (hQv D vwCl G (fun h' => kp [h0] h h' ∧ h' h0 = some (.inr (4, [.int (-1), .int 0, .int 0])))) 0 0 (fun q => G.size ≤ q) := by
  refine Met.ofW (cc := b_Po_init) (maxL := 1) (ret := none) (by decide) rfl ?_
  intro p e s m args below meth c s₁ Bd hml hv
  obtain ⟨ha, hE, hH⟩ := hv
  have hx := Bd.exec
  have hb := Bd.bytes
  have hr := Bd.returns
  have hts : ∀ w ∈ lw_g, w.before args s = true := fun w hw => atoms_spec (ws := (.code y_Po_init b_Po_init 1 none :: lw_g)) Bd.pre w (List.mem_cons_of_mem _ hw)
  have hown : s.vm.findClass R_Po = some m.cls := findClass_of_methodNamed Bd.named
  have hlocks := Bd.notSynchronized
  have hin : meth.name = "<init>" := (name_of_methodNamed Bd.named Bd.method).1
  have hK := hE.1
  have hH0 := hH
  have hLo : hLc G.size [] := hLc_nil
  have hz : s.heap.size ≤ s.heap.size := Nat.le_refl _
  have hkp : kp [h0] h h := kp_rf
  have hl := lv_entry [.ref h0] (n := 1) (Nat.le_of_ble_eq_true rfl)
  rw [show entryFrame m args 1 = F0 m 0 ((lg_sl [.ref h0] ++ List.replicate (1 - (lg_sl [.ref h0]).length) Slot.unset).toArray) [] from (by rw [ha]; exact lg_entry_eq m [.ref h0] 1)]
  generalize (lg_sl [.ref h0] ++ List.replicate (1 - (lg_sl [.ref h0]).length) Slot.unset).toArray = ls at hl ⊢
  have hl : lv_has ls 1 [(0, .ref h0)] := hl
  refine lv_aload_n hx hb d_Po_init_0 rfl (lv_at hl 0 rfl) ?_
  refine W.objInit hx hb hown (hts _ mw_0) (hts _ mw_1) (hts _ mw_2) rfl (by rw [hml]; exact hl.1) rfl d_Po_init_1 (Nat.le_of_ble_eq_true rfl) (Nat.le_of_ble_eq_true rfl) ?_
  refine W.eq (g2 := F0 m 4 ls []) rfl ?_
  refine lv_aload_n hx hb d_Po_init_4 rfl (lv_at hl 0 rfl) ?_
  refine lv_iconst (v := -1) hx hb d_Po_init_5 (by decide) ?_
  refine hm_put (ci := 4) (v := .int (-1)) (ty := .int) (C := R_Po) (T := F_Po) (N := 3) hx hb hts ig_Po t_Po tk_Po nm_Po hown hK hH hLo f_h0 rfl 0 (by decide) (hts _ mw_3) (fun _ h9 => h9) rfl (by decide +kernel) rfl rfl (Nat.le_of_ble_eq_true rfl) d_Po_init_6 (fun H1 locs hH z2 hLo => ?_)
  have hz : s.heap.size ≤ H1.size := by rw [z2]; exact hz
  obtain ⟨h3, e4⟩ : ∃ z, z = hu h h0 (.inr (4, [.int (-1), .int 0, .int 0])) := ⟨_, rfl⟩
  have hH : hm D vwCl G h3 H1 := by rw [e4]; exact hH
  have f_h0 : h3 h0 = some (.inr (4, [.int (-1), .int 0, .int 0])) := by rw [e4]; exact hu_s _ _ _
  have hkp : kp [h0] h h3 := by rw [e4]; exact kp_put hkp (by simp)
  refine lv_aload_n hx hb d_Po_init_9 rfl (lv_at hl 0 rfl) ?_
  refine lv_iconst (v := 0) hx hb d_Po_init_10 (by decide) ?_
  refine hm_put (ci := 4) (v := .int 0) (ty := .boolean) (C := R_Po) (T := F_Po) (N := 3) hx hb hts ig_Po t_Po tk_Po nm_Po hown hK hH hLo f_h0 rfl 1 (by decide) (hts _ mw_4) (fun _ h9 => h9) rfl (by decide +kernel) (by decide) (by decide) (Nat.le_of_ble_eq_true rfl) d_Po_init_11 (fun H5 locs hH z6 hLo => ?_)
  have hz : s.heap.size ≤ H5.size := by rw [z6]; exact hz
  obtain ⟨h7, e8⟩ : ∃ z, z = hu h3 h0 (.inr (4, [.int (-1), .int 0, .int 0])) := ⟨_, rfl⟩
  have hH : hm D vwCl G h7 H5 := by rw [e8]; exact hH
  have f_h0 : h7 h0 = some (.inr (4, [.int (-1), .int 0, .int 0])) := by rw [e8]; exact hu_s _ _ _
  have hkp : kp [h0] h h7 := by rw [e8]; exact kp_put hkp (by simp)
  refine lv_aload_n hx hb d_Po_init_14 rfl (lv_at hl 0 rfl) ?_
  refine lv_iconst (v := 0) hx hb d_Po_init_15 (by decide) ?_
  refine hm_put (ci := 4) (v := .int 0) (ty := .int) (C := R_Po) (T := F_Po) (N := 3) hx hb hts ig_Po t_Po tk_Po nm_Po hown hK hH hLo f_h0 rfl 2 (by decide) (hts _ mw_5) (fun _ h9 => h9) rfl (by decide +kernel) rfl rfl (Nat.le_of_ble_eq_true rfl) d_Po_init_16 (fun H9 locs hH z10 hLo => ?_)
  have hz : s.heap.size ≤ H9.size := by rw [z10]; exact hz
  obtain ⟨h11, e12⟩ : ∃ z, z = hu h7 h0 (.inr (4, [.int (-1), .int 0, .int 0])) := ⟨_, rfl⟩
  have hH : hm D vwCl G h11 H9 := by rw [e12]; exact hH
  have f_h0 : h11 h0 = some (.inr (4, [.int (-1), .int 0, .int 0])) := by rw [e12]; exact hu_s _ _ _
  have hkp : kp [h0] h h11 := by rw [e12]; exact kp_put hkp (by simp)
  exact W.vret hx hb hr (fun t9 ht hW => ⟨h11, rfl, ⟨hkp, f_h0⟩, by rw [ht]; exact hH, by rw [ht]; exact hz⟩) hLo d_Po_init_19

set_option maxHeartbeats 4000000 in
set_option maxRecDepth 100000 in
theorem c_Sector_init (l : Launch) (D : va_G) (t : Nat → ClassId) (G : Heap) (ak av : Nat → Nat) (h : hM) (h0 : Nat) (f_h0 : h h0 = some (.inr (6, [.int 0, .int 0, .null]))) : Met l y_Se_init (.code y_Se_init b_Se_init 1 none :: lw_g) { frames := 1, cells := 0, slots := 0, locals := 12 } (hP (kE D t G ak av) D vwCl G h [.ref h0]) (hQv D vwCl G (fun h' => kp [h0] h h' ∧ h' h0 = some (.inr (6, [.int 0, .int 0, .null])))) 0 0 (fun q => G.size ≤ q) := by
  refine Met.ofW (cc := b_Se_init) (maxL := 1) (ret := none) (by decide) rfl ?_
  intro p e s m args below meth c s₁ Bd hml hv
  obtain ⟨ha, hE, hH⟩ := hv
  have hx := Bd.exec
  have hb := Bd.bytes
  have hr := Bd.returns
  have hts : ∀ w ∈ lw_g, w.before args s = true := fun w hw => atoms_spec (ws := (.code y_Se_init b_Se_init 1 none :: lw_g)) Bd.pre w (List.mem_cons_of_mem _ hw)
  have hown : s.vm.findClass R_Se = some m.cls := findClass_of_methodNamed Bd.named
  have hlocks := Bd.notSynchronized
  have hin : meth.name = "<init>" := (name_of_methodNamed Bd.named Bd.method).1
  have hK := hE.1
  have hH0 := hH
  have hLo : hLc G.size [] := hLc_nil
  have hz : s.heap.size ≤ s.heap.size := Nat.le_refl _
  have hkp : kp [h0] h h := kp_rf
  have hl := lv_entry [.ref h0] (n := 1) (Nat.le_of_ble_eq_true rfl)
  rw [show entryFrame m args 1 = F0 m 0 ((lg_sl [.ref h0] ++ List.replicate (1 - (lg_sl [.ref h0]).length) Slot.unset).toArray) [] from (by rw [ha]; exact lg_entry_eq m [.ref h0] 1)]
  generalize (lg_sl [.ref h0] ++ List.replicate (1 - (lg_sl [.ref h0]).length) Slot.unset).toArray = ls at hl ⊢
  have hl : lv_has ls 1 [(0, .ref h0)] := hl
  refine lv_aload_n hx hb d_Se_init_0 rfl (lv_at hl 0 rfl) ?_
  refine W.objInit hx hb hown (hts _ mw_6) (hts _ mw_1) (hts _ mw_2) rfl (by rw [hml]; exact hl.1) rfl d_Se_init_1 (Nat.le_of_ble_eq_true rfl) (Nat.le_of_ble_eq_true rfl) ?_
  refine W.eq (g2 := F0 m 4 ls []) rfl ?_
  refine lv_aload_n hx hb d_Se_init_4 rfl (lv_at hl 0 rfl) ?_
  refine lv_iconst (v := 0) hx hb d_Se_init_5 (by decide) ?_
  refine hm_put (ci := 6) (v := .int 0) (ty := .int) (C := R_Se) (T := F_Se) (N := 3) hx hb hts ig_Se t_Se tk_Se nm_Se hown hK hH hLo f_h0 rfl 0 (by decide) (hts _ mw_7) (fun _ h9 => h9) rfl (by decide +kernel) rfl rfl (Nat.le_of_ble_eq_true rfl) d_Se_init_6 (fun H1 locs hH z2 hLo => ?_)
  have hz : s.heap.size ≤ H1.size := by rw [z2]; exact hz
  obtain ⟨h3, e4⟩ : ∃ z, z = hu h h0 (.inr (6, [.int 0, .int 0, .null])) := ⟨_, rfl⟩
  have hH : hm D vwCl G h3 H1 := by rw [e4]; exact hH
  have f_h0 : h3 h0 = some (.inr (6, [.int 0, .int 0, .null])) := by rw [e4]; exact hu_s _ _ _
  have hkp : kp [h0] h h3 := by rw [e4]; exact kp_put hkp (by simp)
  refine lv_aload_n hx hb d_Se_init_9 rfl (lv_at hl 0 rfl) ?_
  refine lv_iconst (v := 0) hx hb d_Se_init_10 (by decide) ?_
  refine hm_put (ci := 6) (v := .int 0) (ty := .boolean) (C := R_Se) (T := F_Se) (N := 3) hx hb hts ig_Se t_Se tk_Se nm_Se hown hK hH hLo f_h0 rfl 1 (by decide) (hts _ mw_8) (fun _ h9 => h9) rfl (by decide +kernel) (by decide) (by decide) (Nat.le_of_ble_eq_true rfl) d_Se_init_11 (fun H5 locs hH z6 hLo => ?_)
  have hz : s.heap.size ≤ H5.size := by rw [z6]; exact hz
  obtain ⟨h7, e8⟩ : ∃ z, z = hu h3 h0 (.inr (6, [.int 0, .int 0, .null])) := ⟨_, rfl⟩
  have hH : hm D vwCl G h7 H5 := by rw [e8]; exact hH
  have f_h0 : h7 h0 = some (.inr (6, [.int 0, .int 0, .null])) := by rw [e8]; exact hu_s _ _ _
  have hkp : kp [h0] h h7 := by rw [e8]; exact kp_put hkp (by simp)
  refine lv_aload_n hx hb d_Se_init_14 rfl (lv_at hl 0 rfl) ?_
  refine lv_null hx hb d_Se_init_15 ?_
  refine hm_put (ci := 6) (v := .null) (ty := (.array .byte)) (C := R_Se) (T := F_Se) (N := 3) hx hb hts ig_Se t_Se tk_Se nm_Se hown hK hH hLo f_h0 rfl 2 (by decide) (hts _ mw_9) (fun _ h9 => h9) rfl (by decide +kernel) rfl rfl (Nat.le_of_ble_eq_true rfl) d_Se_init_16 (fun H9 locs hH z10 hLo => ?_)
  have hz : s.heap.size ≤ H9.size := by rw [z10]; exact hz
  obtain ⟨h11, e12⟩ : ∃ z, z = hu h7 h0 (.inr (6, [.int 0, .int 0, .null])) := ⟨_, rfl⟩
  have hH : hm D vwCl G h11 H9 := by rw [e12]; exact hH
  have f_h0 : h11 h0 = some (.inr (6, [.int 0, .int 0, .null])) := by rw [e12]; exact hu_s _ _ _
  have hkp : kp [h0] h h11 := by rw [e12]; exact kp_put hkp (by simp)
  exact W.vret hx hb hr (fun t9 ht hW => ⟨h11, rfl, ⟨hkp, f_h0⟩, by rw [ht]; exact hH, by rw [ht]; exact hz⟩) hLo d_Se_init_19

set_option maxHeartbeats 4000000 in
set_option maxRecDepth 100000 in
theorem c_Node_init (l : Launch) (D : va_G) (t : Nat → ClassId) (G : Heap) (ak av : Nat → Nat) (h : hM) (h0 : Nat) (f_h0 : h h0 = some (.inr (1, [.int 0, .null, .int 0, .long 0, .int 0, .int 0, .int 0, .int 0, .int 0, .int 0, .int 0]))) : Met l y_No_init (.code y_No_init b_No_init 1 none :: lw_g) { frames := 1, cells := 0, slots := 0, locals := 12 } (hP (kE D t G ak av) D vwCl G h [.ref h0]) (hQv D vwCl G (fun h' => kp [h0] h h' ∧ h' h0 = some (.inr (1, [.int 0, .null, .int 1, .long 0, .int 0, .int 0, .int 0, .int 0, .int 0, .int 0, .int 1])))) 0 0 (fun q => G.size ≤ q) := by
  refine Met.ofW (cc := b_No_init) (maxL := 1) (ret := none) (by decide) rfl ?_
  intro p e s m args below meth c s₁ Bd hml hv
  obtain ⟨ha, hE, hH⟩ := hv
  have hx := Bd.exec
  have hb := Bd.bytes
  have hr := Bd.returns
  have hts : ∀ w ∈ lw_g, w.before args s = true := fun w hw => atoms_spec (ws := (.code y_No_init b_No_init 1 none :: lw_g)) Bd.pre w (List.mem_cons_of_mem _ hw)
  have hown : s.vm.findClass R_No = some m.cls := findClass_of_methodNamed Bd.named
  have hlocks := Bd.notSynchronized
  have hin : meth.name = "<init>" := (name_of_methodNamed Bd.named Bd.method).1
  have hK := hE.1
  have hH0 := hH
  have hLo : hLc G.size [] := hLc_nil
  have hz : s.heap.size ≤ s.heap.size := Nat.le_refl _
  have hkp : kp [h0] h h := kp_rf
  have hl := lv_entry [.ref h0] (n := 1) (Nat.le_of_ble_eq_true rfl)
  rw [show entryFrame m args 1 = F0 m 0 ((lg_sl [.ref h0] ++ List.replicate (1 - (lg_sl [.ref h0]).length) Slot.unset).toArray) [] from (by rw [ha]; exact lg_entry_eq m [.ref h0] 1)]
  generalize (lg_sl [.ref h0] ++ List.replicate (1 - (lg_sl [.ref h0]).length) Slot.unset).toArray = ls at hl ⊢
  have hl : lv_has ls 1 [(0, .ref h0)] := hl
  refine lv_aload_n hx hb d_No_init_0 rfl (lv_at hl 0 rfl) ?_
  refine W.objInit hx hb hown (hts _ mw_10) (hts _ mw_1) (hts _ mw_2) rfl (by rw [hml]; exact hl.1) rfl d_No_init_1 (Nat.le_of_ble_eq_true rfl) (Nat.le_of_ble_eq_true rfl) ?_
  refine W.eq (g2 := F0 m 4 ls []) rfl ?_
  refine lv_aload_n hx hb d_No_init_4 rfl (lv_at hl 0 rfl) ?_
  refine lv_iconst (v := 0) hx hb d_No_init_5 (by decide) ?_
  refine hm_put (ci := 1) (v := .int 0) (ty := .int) (C := R_No) (T := F_No) (N := 11) hx hb hts ig_No t_No tk_No nm_No hown hK hH hLo f_h0 rfl 0 (by decide) (hts _ mw_11) (fun _ h9 => h9) rfl (by decide +kernel) rfl rfl (Nat.le_of_ble_eq_true rfl) d_No_init_6 (fun H1 locs hH z2 hLo => ?_)
  have hz : s.heap.size ≤ H1.size := by rw [z2]; exact hz
  obtain ⟨h3, e4⟩ : ∃ z, z = hu h h0 (.inr (1, [.int 0, .null, .int 0, .long 0, .int 0, .int 0, .int 0, .int 0, .int 0, .int 0, .int 0])) := ⟨_, rfl⟩
  have hH : hm D vwCl G h3 H1 := by rw [e4]; exact hH
  have f_h0 : h3 h0 = some (.inr (1, [.int 0, .null, .int 0, .long 0, .int 0, .int 0, .int 0, .int 0, .int 0, .int 0, .int 0])) := by rw [e4]; exact hu_s _ _ _
  have hkp : kp [h0] h h3 := by rw [e4]; exact kp_put hkp (by simp)
  refine lv_aload_n hx hb d_No_init_9 rfl (lv_at hl 0 rfl) ?_
  refine lv_null hx hb d_No_init_10 ?_
  refine hm_put (ci := 1) (v := .null) (ty := (.object "WriteOnceDisc$Node")) (C := R_No) (T := F_No) (N := 11) hx hb hts ig_No t_No tk_No nm_No hown hK hH hLo f_h0 rfl 1 (by decide) (hts _ mw_12) (fun _ h9 => h9) rfl (by decide +kernel) rfl rfl (Nat.le_of_ble_eq_true rfl) d_No_init_11 (fun H5 locs hH z6 hLo => ?_)
  have hz : s.heap.size ≤ H5.size := by rw [z6]; exact hz
  obtain ⟨h7, e8⟩ : ∃ z, z = hu h3 h0 (.inr (1, [.int 0, .null, .int 0, .long 0, .int 0, .int 0, .int 0, .int 0, .int 0, .int 0, .int 0])) := ⟨_, rfl⟩
  have hH : hm D vwCl G h7 H5 := by rw [e8]; exact hH
  have f_h0 : h7 h0 = some (.inr (1, [.int 0, .null, .int 0, .long 0, .int 0, .int 0, .int 0, .int 0, .int 0, .int 0, .int 0])) := by rw [e8]; exact hu_s _ _ _
  have hkp : kp [h0] h h7 := by rw [e8]; exact kp_put hkp (by simp)
  refine lv_aload_n hx hb d_No_init_14 rfl (lv_at hl 0 rfl) ?_
  refine lv_iconst (v := 1) hx hb d_No_init_15 (by decide) ?_
  refine hm_put (ci := 1) (v := .int 1) (ty := .boolean) (C := R_No) (T := F_No) (N := 11) hx hb hts ig_No t_No tk_No nm_No hown hK hH hLo f_h0 rfl 2 (by decide) (hts _ mw_13) (fun _ h9 => h9) rfl (by decide +kernel) (by decide) (by decide) (Nat.le_of_ble_eq_true rfl) d_No_init_16 (fun H9 locs hH z10 hLo => ?_)
  have hz : s.heap.size ≤ H9.size := by rw [z10]; exact hz
  obtain ⟨h11, e12⟩ : ∃ z, z = hu h7 h0 (.inr (1, [.int 0, .null, .int 1, .long 0, .int 0, .int 0, .int 0, .int 0, .int 0, .int 0, .int 0])) := ⟨_, rfl⟩
  have hH : hm D vwCl G h11 H9 := by rw [e12]; exact hH
  have f_h0 : h11 h0 = some (.inr (1, [.int 0, .null, .int 1, .long 0, .int 0, .int 0, .int 0, .int 0, .int 0, .int 0, .int 0])) := by rw [e12]; exact hu_s _ _ _
  have hkp : kp [h0] h h11 := by rw [e12]; exact kp_put hkp (by simp)
  refine lv_aload_n hx hb d_No_init_19 rfl (lv_at hl 0 rfl) ?_
  refine lv_lconst (v := 0) hx hb d_No_init_20 (by decide) ?_
  refine hm_put (ci := 1) (v := .long 0) (ty := .long) (C := R_No) (T := F_No) (N := 11) hx hb hts ig_No t_No tk_No nm_No hown hK hH hLo f_h0 rfl 3 (by decide) (hts _ mw_14) (fun _ h9 => h9) rfl (by decide +kernel) rfl rfl (Nat.le_of_ble_eq_true rfl) d_No_init_21 (fun H13 locs hH z14 hLo => ?_)
  have hz : s.heap.size ≤ H13.size := by rw [z14]; exact hz
  obtain ⟨h15, e16⟩ : ∃ z, z = hu h11 h0 (.inr (1, [.int 0, .null, .int 1, .long 0, .int 0, .int 0, .int 0, .int 0, .int 0, .int 0, .int 0])) := ⟨_, rfl⟩
  have hH : hm D vwCl G h15 H13 := by rw [e16]; exact hH
  have f_h0 : h15 h0 = some (.inr (1, [.int 0, .null, .int 1, .long 0, .int 0, .int 0, .int 0, .int 0, .int 0, .int 0, .int 0])) := by rw [e16]; exact hu_s _ _ _
  have hkp : kp [h0] h h15 := by rw [e16]; exact kp_put hkp (by simp)
  refine lv_aload_n hx hb d_No_init_24 rfl (lv_at hl 0 rfl) ?_
  refine lv_iconst (v := 0) hx hb d_No_init_25 (by decide) ?_
  refine hm_put (ci := 1) (v := .int 0) (ty := .int) (C := R_No) (T := F_No) (N := 11) hx hb hts ig_No t_No tk_No nm_No hown hK hH hLo f_h0 rfl 4 (by decide) (hts _ mw_15) (fun _ h9 => h9) rfl (by decide +kernel) rfl rfl (Nat.le_of_ble_eq_true rfl) d_No_init_26 (fun H17 locs hH z18 hLo => ?_)
  have hz : s.heap.size ≤ H17.size := by rw [z18]; exact hz
  obtain ⟨h19, e20⟩ : ∃ z, z = hu h15 h0 (.inr (1, [.int 0, .null, .int 1, .long 0, .int 0, .int 0, .int 0, .int 0, .int 0, .int 0, .int 0])) := ⟨_, rfl⟩
  have hH : hm D vwCl G h19 H17 := by rw [e20]; exact hH
  have f_h0 : h19 h0 = some (.inr (1, [.int 0, .null, .int 1, .long 0, .int 0, .int 0, .int 0, .int 0, .int 0, .int 0, .int 0])) := by rw [e20]; exact hu_s _ _ _
  have hkp : kp [h0] h h19 := by rw [e20]; exact kp_put hkp (by simp)
  refine lv_aload_n hx hb d_No_init_29 rfl (lv_at hl 0 rfl) ?_
  refine lv_iconst (v := 0) hx hb d_No_init_30 (by decide) ?_
  refine hm_put (ci := 1) (v := .int 0) (ty := .int) (C := R_No) (T := F_No) (N := 11) hx hb hts ig_No t_No tk_No nm_No hown hK hH hLo f_h0 rfl 5 (by decide) (hts _ mw_16) (fun _ h9 => h9) rfl (by decide +kernel) rfl rfl (Nat.le_of_ble_eq_true rfl) d_No_init_31 (fun H21 locs hH z22 hLo => ?_)
  have hz : s.heap.size ≤ H21.size := by rw [z22]; exact hz
  obtain ⟨h23, e24⟩ : ∃ z, z = hu h19 h0 (.inr (1, [.int 0, .null, .int 1, .long 0, .int 0, .int 0, .int 0, .int 0, .int 0, .int 0, .int 0])) := ⟨_, rfl⟩
  have hH : hm D vwCl G h23 H21 := by rw [e24]; exact hH
  have f_h0 : h23 h0 = some (.inr (1, [.int 0, .null, .int 1, .long 0, .int 0, .int 0, .int 0, .int 0, .int 0, .int 0, .int 0])) := by rw [e24]; exact hu_s _ _ _
  have hkp : kp [h0] h h23 := by rw [e24]; exact kp_put hkp (by simp)
  refine lv_aload_n hx hb d_No_init_34 rfl (lv_at hl 0 rfl) ?_
  refine lv_iconst (v := 0) hx hb d_No_init_35 (by decide) ?_
  refine hm_put (ci := 1) (v := .int 0) (ty := .int) (C := R_No) (T := F_No) (N := 11) hx hb hts ig_No t_No tk_No nm_No hown hK hH hLo f_h0 rfl 6 (by decide) (hts _ mw_17) (fun _ h9 => h9) rfl (by decide +kernel) rfl rfl (Nat.le_of_ble_eq_true rfl) d_No_init_36 (fun H25 locs hH z26 hLo => ?_)
  have hz : s.heap.size ≤ H25.size := by rw [z26]; exact hz
  obtain ⟨h27, e28⟩ : ∃ z, z = hu h23 h0 (.inr (1, [.int 0, .null, .int 1, .long 0, .int 0, .int 0, .int 0, .int 0, .int 0, .int 0, .int 0])) := ⟨_, rfl⟩
  have hH : hm D vwCl G h27 H25 := by rw [e28]; exact hH
  have f_h0 : h27 h0 = some (.inr (1, [.int 0, .null, .int 1, .long 0, .int 0, .int 0, .int 0, .int 0, .int 0, .int 0, .int 0])) := by rw [e28]; exact hu_s _ _ _
  have hkp : kp [h0] h h27 := by rw [e28]; exact kp_put hkp (by simp)
  refine lv_aload_n hx hb d_No_init_39 rfl (lv_at hl 0 rfl) ?_
  refine lv_iconst (v := 0) hx hb d_No_init_40 (by decide) ?_
  refine hm_put (ci := 1) (v := .int 0) (ty := .boolean) (C := R_No) (T := F_No) (N := 11) hx hb hts ig_No t_No tk_No nm_No hown hK hH hLo f_h0 rfl 7 (by decide) (hts _ mw_18) (fun _ h9 => h9) rfl (by decide +kernel) (by decide) (by decide) (Nat.le_of_ble_eq_true rfl) d_No_init_41 (fun H29 locs hH z30 hLo => ?_)
  have hz : s.heap.size ≤ H29.size := by rw [z30]; exact hz
  obtain ⟨h31, e32⟩ : ∃ z, z = hu h27 h0 (.inr (1, [.int 0, .null, .int 1, .long 0, .int 0, .int 0, .int 0, .int 0, .int 0, .int 0, .int 0])) := ⟨_, rfl⟩
  have hH : hm D vwCl G h31 H29 := by rw [e32]; exact hH
  have f_h0 : h31 h0 = some (.inr (1, [.int 0, .null, .int 1, .long 0, .int 0, .int 0, .int 0, .int 0, .int 0, .int 0, .int 0])) := by rw [e32]; exact hu_s _ _ _
  have hkp : kp [h0] h h31 := by rw [e32]; exact kp_put hkp (by simp)
  refine lv_aload_n hx hb d_No_init_44 rfl (lv_at hl 0 rfl) ?_
  refine lv_iconst (v := 0) hx hb d_No_init_45 (by decide) ?_
  refine hm_put (ci := 1) (v := .int 0) (ty := .int) (C := R_No) (T := F_No) (N := 11) hx hb hts ig_No t_No tk_No nm_No hown hK hH hLo f_h0 rfl 8 (by decide) (hts _ mw_19) (fun _ h9 => h9) rfl (by decide +kernel) rfl rfl (Nat.le_of_ble_eq_true rfl) d_No_init_46 (fun H33 locs hH z34 hLo => ?_)
  have hz : s.heap.size ≤ H33.size := by rw [z34]; exact hz
  obtain ⟨h35, e36⟩ : ∃ z, z = hu h31 h0 (.inr (1, [.int 0, .null, .int 1, .long 0, .int 0, .int 0, .int 0, .int 0, .int 0, .int 0, .int 0])) := ⟨_, rfl⟩
  have hH : hm D vwCl G h35 H33 := by rw [e36]; exact hH
  have f_h0 : h35 h0 = some (.inr (1, [.int 0, .null, .int 1, .long 0, .int 0, .int 0, .int 0, .int 0, .int 0, .int 0, .int 0])) := by rw [e36]; exact hu_s _ _ _
  have hkp : kp [h0] h h35 := by rw [e36]; exact kp_put hkp (by simp)
  refine lv_aload_n hx hb d_No_init_49 rfl (lv_at hl 0 rfl) ?_
  refine lv_iconst (v := 0) hx hb d_No_init_50 (by decide) ?_
  refine hm_put (ci := 1) (v := .int 0) (ty := .int) (C := R_No) (T := F_No) (N := 11) hx hb hts ig_No t_No tk_No nm_No hown hK hH hLo f_h0 rfl 9 (by decide) (hts _ mw_20) (fun _ h9 => h9) rfl (by decide +kernel) rfl rfl (Nat.le_of_ble_eq_true rfl) d_No_init_51 (fun H37 locs hH z38 hLo => ?_)
  have hz : s.heap.size ≤ H37.size := by rw [z38]; exact hz
  obtain ⟨h39, e40⟩ : ∃ z, z = hu h35 h0 (.inr (1, [.int 0, .null, .int 1, .long 0, .int 0, .int 0, .int 0, .int 0, .int 0, .int 0, .int 0])) := ⟨_, rfl⟩
  have hH : hm D vwCl G h39 H37 := by rw [e40]; exact hH
  have f_h0 : h39 h0 = some (.inr (1, [.int 0, .null, .int 1, .long 0, .int 0, .int 0, .int 0, .int 0, .int 0, .int 0, .int 0])) := by rw [e40]; exact hu_s _ _ _
  have hkp : kp [h0] h h39 := by rw [e40]; exact kp_put hkp (by simp)
  refine lv_aload_n hx hb d_No_init_54 rfl (lv_at hl 0 rfl) ?_
  refine lv_iconst (v := 1) hx hb d_No_init_55 (by decide) ?_
  refine hm_put (ci := 1) (v := .int 1) (ty := .int) (C := R_No) (T := F_No) (N := 11) hx hb hts ig_No t_No tk_No nm_No hown hK hH hLo f_h0 rfl 10 (by decide) (hts _ mw_21) (fun _ h9 => h9) rfl (by decide +kernel) rfl rfl (Nat.le_of_ble_eq_true rfl) d_No_init_56 (fun H41 locs hH z42 hLo => ?_)
  have hz : s.heap.size ≤ H41.size := by rw [z42]; exact hz
  obtain ⟨h43, e44⟩ : ∃ z, z = hu h39 h0 (.inr (1, [.int 0, .null, .int 1, .long 0, .int 0, .int 0, .int 0, .int 0, .int 0, .int 0, .int 1])) := ⟨_, rfl⟩
  have hH : hm D vwCl G h43 H41 := by rw [e44]; exact hH
  have f_h0 : h43 h0 = some (.inr (1, [.int 0, .null, .int 1, .long 0, .int 0, .int 0, .int 0, .int 0, .int 0, .int 0, .int 1])) := by rw [e44]; exact hu_s _ _ _
  have hkp : kp [h0] h h43 := by rw [e44]; exact kp_put hkp (by simp)
  exact W.vret hx hb hr (fun t9 ht hW => ⟨h43, rfl, ⟨hkp, f_h0⟩, by rw [ht]; exact hH, by rw [ht]; exact hz⟩) hLo d_No_init_59

set_option maxHeartbeats 4000000 in
set_option maxRecDepth 100000 in
theorem c_Page_init_2048 (l : Launch) (D : va_G) (t : Nat → ClassId) (G : Heap) (ak av : Nat → Nat) (h : hM) (h0 : Nat) (f_h0 : h h0 = some (.inr (3, [.null]))) : Met l y_Pg_init (.code y_Pg_init b_Pg_init 2 none :: lw_g) { frames := 1, cells := 1, slots := 2048, locals := 12 } (hP (kE D t G ak av) D vwCl G h [.ref h0, .int 2048]) (hQv D vwCl G (fun h' => kp [h0] h h' ∧ ∃ pb, h' h0 = some (.inr (3, [.ref pb])) ∧ h' pb = some (.inl (t 0, 2048, .inl (fun _ => 0))))) 1 2048 (fun q => G.size ≤ q) := by
  refine Met.ofW (cc := b_Pg_init) (maxL := 2) (ret := none) (by decide) rfl ?_
  intro p e s m args below meth c s₁ Bd hml hv
  obtain ⟨ha, hE, hH⟩ := hv
  have hx := Bd.exec
  have hb := Bd.bytes
  have hr := Bd.returns
  have hts : ∀ w ∈ lw_g, w.before args s = true := fun w hw => atoms_spec (ws := (.code y_Pg_init b_Pg_init 2 none :: lw_g)) Bd.pre w (List.mem_cons_of_mem _ hw)
  have hown : s.vm.findClass R_Pg = some m.cls := findClass_of_methodNamed Bd.named
  have hlocks := Bd.notSynchronized
  have hin : meth.name = "<init>" := (name_of_methodNamed Bd.named Bd.method).1
  have hK := hE.1
  have hH0 := hH
  have hLo : hLc G.size [] := hLc_nil
  have hz : s.heap.size ≤ s.heap.size := Nat.le_refl _
  have hkp : kp [h0] h h := kp_rf
  have hl := lv_entry [.ref h0, .int 2048] (n := 2) (Nat.le_of_ble_eq_true rfl)
  rw [show entryFrame m args 2 = F0 m 0 ((lg_sl [.ref h0, .int 2048] ++ List.replicate (2 - (lg_sl [.ref h0, .int 2048]).length) Slot.unset).toArray) [] from (by rw [ha]; exact lg_entry_eq m [.ref h0, .int 2048] 2)]
  generalize (lg_sl [.ref h0, .int 2048] ++ List.replicate (2 - (lg_sl [.ref h0, .int 2048]).length) Slot.unset).toArray = ls at hl ⊢
  have hl : lv_has ls 2 [(0, .ref h0), (1, .int 2048)] := hl
  refine lv_aload_n hx hb d_Pg_init_0 rfl (lv_at hl 0 rfl) ?_
  refine W.objInit hx hb hown (hts _ mw_22) (hts _ mw_1) (hts _ mw_2) rfl (by rw [hml]; exact hl.1) rfl d_Pg_init_1 (Nat.le_of_ble_eq_true rfl) (Nat.le_of_ble_eq_true rfl) ?_
  refine W.eq (g2 := F0 m 4 ls []) rfl ?_
  refine lv_aload_n hx hb d_Pg_init_4 rfl (lv_at hl 0 rfl) ?_
  refine lv_iload_n hx hb d_Pg_init_5 rfl (lv_at hl 1 rfl) ?_
  refine hm_newa (atype := .byte) (ty := .byte) (N' := 2048) (a0 := (2048, .inl (fun _ => 0))) hx hb (hts _ mw_23) rfl hK hH 0 (cA := (t 0)) rfl (hK.2 0 _ rfl).2 (fun _ => rfl) (by decide) (by decide) (by decide) (Nat.le_of_ble_eq_true rfl) (Nat.le_of_ble_eq_true rfl) d_Pg_init_6 (fun q2 H1 hq3 hn4 hH z5 => ?_)
  have hz : s.heap.size ≤ H1.size := by rw [z5]; exact Nat.le_succ_of_le hz
  obtain ⟨h6, e7⟩ : ∃ z, z = hu h q2 (.inl ((t 0), 2048, .inl (fun _ => 0))) := ⟨_, rfl⟩
  have hH : hm D vwCl G h6 H1 := by rw [e7]; exact hH
  have nb_h_q2 : h q2 = none := kp_none hkp hn4 (nmc (Ne.symm (h_nf hn4 f_h0)) nm0)
  have hkp : kp [h0] h h6 := by rw [e7]; exact kp_new hkp hn4
  have ne_h0_q2 : h0 ≠ q2 := h_nf hn4 f_h0
  have f_h0 : h6 h0 = some (.inr (3, [.null])) := by rw [e7, hu_n ne_h0_q2]; exact f_h0
  have f_pb : h6 q2 = some (.inl ((t 0), 2048, .inl (fun _ => 0))) := by rw [e7]; exact hu_s _ _ _
  refine hm_putF (ci := 3) (v := .ref q2) (ty := (.array .byte)) (C := R_Pg) (T := F_Pg) (N := 1) hx hb hts ig_Pg t_Pg tk_Pg nm_Pg hown hK hH hLo f_h0 rfl 0 (by decide) (hts _ mw_24) (fun _ h9 => h9) rfl hin rfl (by decide +kernel) rfl rfl (Nat.le_of_ble_eq_true rfl) d_Pg_init_8 (fun H8 locs hH z9 hLo => ?_)
  have hz : s.heap.size ≤ H8.size := by rw [z9]; exact hz
  obtain ⟨h10, e11⟩ : ∃ z, z = hu h6 h0 (.inr (3, [.ref q2])) := ⟨_, rfl⟩
  have hH : hm D vwCl G h10 H8 := by rw [e11]; exact hH
  have f_pb : h10 q2 = some (.inl ((t 0), 2048, .inl (fun _ => 0))) := by rw [e11, hu_n (Ne.symm ne_h0_q2)]; exact f_pb
  have f_h0 : h10 h0 = some (.inr (3, [.ref q2])) := by rw [e11]; exact hu_s _ _ _
  have hkp : kp [h0] h h10 := by rw [e11]; exact kp_put hkp (by simp)
  exact W.vret hx hb hr (fun t9 ht hW => ⟨h10, rfl, ⟨hkp, q2, f_h0, f_pb⟩, by rw [ht]; exact hH, by rw [ht]; exact hz⟩) hLo d_Pg_init_11

set_option maxHeartbeats 4000000 in
set_option maxRecDepth 100000 in
theorem c_Page_init_480 (l : Launch) (D : va_G) (t : Nat → ClassId) (G : Heap) (ak av : Nat → Nat) (h : hM) (h0 : Nat) (f_h0 : h h0 = some (.inr (3, [.null]))) : Met l y_Pg_init (.code y_Pg_init b_Pg_init 2 none :: lw_g) { frames := 1, cells := 1, slots := 480, locals := 12 } (hP (kE D t G ak av) D vwCl G h [.ref h0, .int 480]) (hQv D vwCl G (fun h' => kp [h0] h h' ∧ ∃ pb, h' h0 = some (.inr (3, [.ref pb])) ∧ h' pb = some (.inl (t 0, 480, .inl (fun _ => 0))))) 1 480 (fun q => G.size ≤ q) := by
  refine Met.ofW (cc := b_Pg_init) (maxL := 2) (ret := none) (by decide) rfl ?_
  intro p e s m args below meth c s₁ Bd hml hv
  obtain ⟨ha, hE, hH⟩ := hv
  have hx := Bd.exec
  have hb := Bd.bytes
  have hr := Bd.returns
  have hts : ∀ w ∈ lw_g, w.before args s = true := fun w hw => atoms_spec (ws := (.code y_Pg_init b_Pg_init 2 none :: lw_g)) Bd.pre w (List.mem_cons_of_mem _ hw)
  have hown : s.vm.findClass R_Pg = some m.cls := findClass_of_methodNamed Bd.named
  have hlocks := Bd.notSynchronized
  have hin : meth.name = "<init>" := (name_of_methodNamed Bd.named Bd.method).1
  have hK := hE.1
  have hH0 := hH
  have hLo : hLc G.size [] := hLc_nil
  have hz : s.heap.size ≤ s.heap.size := Nat.le_refl _
  have hkp : kp [h0] h h := kp_rf
  have hl := lv_entry [.ref h0, .int 480] (n := 2) (Nat.le_of_ble_eq_true rfl)
  rw [show entryFrame m args 2 = F0 m 0 ((lg_sl [.ref h0, .int 480] ++ List.replicate (2 - (lg_sl [.ref h0, .int 480]).length) Slot.unset).toArray) [] from (by rw [ha]; exact lg_entry_eq m [.ref h0, .int 480] 2)]
  generalize (lg_sl [.ref h0, .int 480] ++ List.replicate (2 - (lg_sl [.ref h0, .int 480]).length) Slot.unset).toArray = ls at hl ⊢
  have hl : lv_has ls 2 [(0, .ref h0), (1, .int 480)] := hl
  refine lv_aload_n hx hb d_Pg_init_0 rfl (lv_at hl 0 rfl) ?_
  refine W.objInit hx hb hown (hts _ mw_22) (hts _ mw_1) (hts _ mw_2) rfl (by rw [hml]; exact hl.1) rfl d_Pg_init_1 (Nat.le_of_ble_eq_true rfl) (Nat.le_of_ble_eq_true rfl) ?_
  refine W.eq (g2 := F0 m 4 ls []) rfl ?_
  refine lv_aload_n hx hb d_Pg_init_4 rfl (lv_at hl 0 rfl) ?_
  refine lv_iload_n hx hb d_Pg_init_5 rfl (lv_at hl 1 rfl) ?_
  refine hm_newa (atype := .byte) (ty := .byte) (N' := 480) (a0 := (480, .inl (fun _ => 0))) hx hb (hts _ mw_23) rfl hK hH 0 (cA := (t 0)) rfl (hK.2 0 _ rfl).2 (fun _ => rfl) (by decide) (by decide) (by decide) (Nat.le_of_ble_eq_true rfl) (Nat.le_of_ble_eq_true rfl) d_Pg_init_6 (fun q2 H1 hq3 hn4 hH z5 => ?_)
  have hz : s.heap.size ≤ H1.size := by rw [z5]; exact Nat.le_succ_of_le hz
  obtain ⟨h6, e7⟩ : ∃ z, z = hu h q2 (.inl ((t 0), 480, .inl (fun _ => 0))) := ⟨_, rfl⟩
  have hH : hm D vwCl G h6 H1 := by rw [e7]; exact hH
  have nb_h_q2 : h q2 = none := kp_none hkp hn4 (nmc (Ne.symm (h_nf hn4 f_h0)) nm0)
  have hkp : kp [h0] h h6 := by rw [e7]; exact kp_new hkp hn4
  have ne_h0_q2 : h0 ≠ q2 := h_nf hn4 f_h0
  have f_h0 : h6 h0 = some (.inr (3, [.null])) := by rw [e7, hu_n ne_h0_q2]; exact f_h0
  have f_pb : h6 q2 = some (.inl ((t 0), 480, .inl (fun _ => 0))) := by rw [e7]; exact hu_s _ _ _
  refine hm_putF (ci := 3) (v := .ref q2) (ty := (.array .byte)) (C := R_Pg) (T := F_Pg) (N := 1) hx hb hts ig_Pg t_Pg tk_Pg nm_Pg hown hK hH hLo f_h0 rfl 0 (by decide) (hts _ mw_24) (fun _ h9 => h9) rfl hin rfl (by decide +kernel) rfl rfl (Nat.le_of_ble_eq_true rfl) d_Pg_init_8 (fun H8 locs hH z9 hLo => ?_)
  have hz : s.heap.size ≤ H8.size := by rw [z9]; exact hz
  obtain ⟨h10, e11⟩ : ∃ z, z = hu h6 h0 (.inr (3, [.ref q2])) := ⟨_, rfl⟩
  have hH : hm D vwCl G h10 H8 := by rw [e11]; exact hH
  have f_pb : h10 q2 = some (.inl ((t 0), 480, .inl (fun _ => 0))) := by rw [e11, hu_n (Ne.symm ne_h0_q2)]; exact f_pb
  have f_h0 : h10 h0 = some (.inr (3, [.ref q2])) := by rw [e11]; exact hu_s _ _ _
  have hkp : kp [h0] h h10 := by rw [e11]; exact kp_put hkp (by simp)
  exact W.vret hx hb hr (fun t9 ht hW => ⟨h10, rfl, ⟨hkp, q2, f_h0, f_pb⟩, by rw [ht]; exact hH, by rw [ht]; exact hz⟩) hLo d_Pg_init_11
end
section
set_option maxRecDepth 100000 in
theorem mw_25 : Cond.methodLink R_Me 3 objectInit ∈ lw_g := lw_gin (List.mem_append_right _ (List.mem_of_getElem? (i := 202) rfl)) (by decide +kernel)
set_option maxRecDepth 100000 in
theorem mw_26 : Cond.fieldLink R_Me 9 "WriteOnceDisc$Medium" "front" "I" ∈ lw_g := lw_gin (List.mem_append_right _ (List.mem_of_getElem? (i := 228) rfl)) (by decide +kernel)
set_option maxRecDepth 100000 in
theorem mw_27 : Cond.classLink R_Me 15 R_Se ∈ lw_g := lw_gin (List.mem_append_right _ (List.mem_of_getElem? (i := 203) rfl)) (by decide +kernel)
set_option maxRecDepth 100000 in
theorem mw_28 : Cond.fieldLink R_Me 17 "WriteOnceDisc$Medium" "sectors" "[LWriteOnceDisc$Sector;" ∈ lw_g := lw_gin (List.mem_append_right _ (List.mem_of_getElem? (i := 224) rfl)) (by decide +kernel)
set_option maxRecDepth 100000 in
theorem mw_29 : Cond.instantiable R_Se 3 ∈ lw_g := lw_gin (List.mem_append_right _ (List.mem_of_getElem? (i := 205) rfl)) (by decide +kernel)
set_option maxRecDepth 100000 in
theorem mw_30 : Cond.initialized R_Se ∈ lw_g := lw_gin (List.mem_append_right _ (List.mem_of_getElem? (i := 9) rfl)) (by decide +kernel)
set_option maxRecDepth 100000 in
theorem mw_31 : Cond.code y_Se_init b_Se_init 1 none ∈ lw_g := lw_gin (List.mem_append_right _ (List.mem_of_getElem? (i := 208) rfl)) (by decide +kernel)
set_option maxRecDepth 100000 in
theorem mw_32 : Cond.instanceMethod y_Se_init ∈ lw_g := lw_gin (List.mem_append_right _ (List.mem_of_getElem? (i := 207) rfl)) (by decide +kernel)
set_option maxRecDepth 100000 in
theorem mw_33 : Cond.methodLink R_Ns 3 objectInit ∈ lw_g := lw_gin (List.mem_append_right _ (List.mem_of_getElem? (i := 175) rfl)) (by decide +kernel)
set_option maxRecDepth 100000 in
theorem mw_34 : Cond.classLink R_Ns 9 R_No ∈ lw_g := lw_gin (List.mem_append_right _ (List.mem_of_getElem? (i := 176) rfl)) (by decide +kernel)
set_option maxRecDepth 100000 in
theorem mw_35 : Cond.fieldLink R_Ns 11 "WriteOnceDisc$Nodes" "slots" "[LWriteOnceDisc$Node;" ∈ lw_g := lw_gin (List.mem_append_right _ (List.mem_of_getElem? (i := 179) rfl)) (by decide +kernel)
set_option maxRecDepth 100000 in
theorem mw_36 : Cond.fieldLink R_Ns 17 "WriteOnceDisc$Nodes" "order" "[LWriteOnceDisc$Node;" ∈ lw_g := lw_gin (List.mem_append_right _ (List.mem_of_getElem? (i := 182) rfl)) (by decide +kernel)
set_option maxRecDepth 100000 in
theorem mw_37 : Cond.fieldLink R_Ns 20 "WriteOnceDisc$Nodes" "count" "I" ∈ lw_g := lw_gin (List.mem_append_right _ (List.mem_of_getElem? (i := 184) rfl)) (by decide +kernel)
set_option maxRecDepth 100000 in
theorem mw_38 : Cond.fieldLink R_Ns 24 "WriteOnceDisc$Nodes" "nextNumber" "I" ∈ lw_g := lw_gin (List.mem_append_right _ (List.mem_of_getElem? (i := 187) rfl)) (by decide +kernel)
set_option maxRecDepth 100000 in
theorem mw_39 : Cond.instantiable R_No 11 ∈ lw_g := lw_gin (List.mem_append_right _ (List.mem_of_getElem? (i := 85) rfl)) (by decide +kernel)
set_option maxRecDepth 100000 in
theorem mw_40 : Cond.initialized R_No ∈ lw_g := lw_gin (List.mem_append_right _ (List.mem_of_getElem? (i := 6) rfl)) (by decide +kernel)
set_option maxRecDepth 100000 in
theorem mw_41 : Cond.code y_No_init b_No_init 1 none ∈ lw_g := lw_gin (List.mem_append_right _ (List.mem_of_getElem? (i := 88) rfl)) (by decide +kernel)
set_option maxRecDepth 100000 in
theorem mw_42 : Cond.instanceMethod y_No_init ∈ lw_g := lw_gin (List.mem_append_right _ (List.mem_of_getElem? (i := 87) rfl)) (by decide +kernel)
set_option maxRecDepth 100000 in
theorem mw_43 : Cond.methodLink R_Wr 3 objectInit ∈ lw_g := lw_gin (List.mem_append_right _ (List.mem_of_getElem? (i := 35) rfl)) (by decide +kernel)
set_option maxRecDepth 100000 in
theorem mw_44 : Cond.classLink R_Wr 9 R_Po ∈ lw_g := lw_gin (List.mem_append_right _ (List.mem_of_getElem? (i := 36) rfl)) (by decide +kernel)
set_option maxRecDepth 100000 in
theorem mw_45 : Cond.instantiable R_Po 3 ∈ lw_g := lw_gin (List.mem_append_right _ (List.mem_of_getElem? (i := 37) rfl)) (by decide +kernel)
set_option maxRecDepth 100000 in
theorem mw_46 : Cond.initialized R_Po ∈ lw_g := lw_gin (List.mem_append_right _ (List.mem_of_getElem? (i := 3) rfl)) (by decide +kernel)
set_option maxRecDepth 100000 in
theorem mw_47 : Cond.code y_Po_init b_Po_init 1 none ∈ lw_g := lw_gin (List.mem_append_right _ (List.mem_of_getElem? (i := 40) rfl)) (by decide +kernel)
set_option maxRecDepth 100000 in
theorem mw_48 : Cond.instanceMethod y_Po_init ∈ lw_g := lw_gin (List.mem_append_right _ (List.mem_of_getElem? (i := 39) rfl)) (by decide +kernel)
set_option maxRecDepth 100000 in
theorem mw_49 : Cond.fieldLink R_Wr 12 "WriteOnceDisc$Writer" "supply" "LWriteOnceDisc$Power;" ∈ lw_g := lw_gin (List.mem_append_right _ (List.mem_of_getElem? (i := 68) rfl)) (by decide +kernel)
set_option maxRecDepth 100000 in
theorem mw_50 : Cond.classLink R_Wr 18 R_Pg ∈ lw_g := lw_gin (List.mem_append_right _ (List.mem_of_getElem? (i := 55) rfl)) (by decide +kernel)
set_option maxRecDepth 100000 in
theorem mw_51 : Cond.instantiable R_Pg 1 ∈ lw_g := lw_gin (List.mem_append_right _ (List.mem_of_getElem? (i := 56) rfl)) (by decide +kernel)
set_option maxRecDepth 100000 in
theorem mw_52 : Cond.initialized R_Pg ∈ lw_g := lw_gin (List.mem_append_right _ (List.mem_of_getElem? (i := 4) rfl)) (by decide +kernel)
set_option maxRecDepth 100000 in
theorem mw_53 : Cond.code y_Pg_init b_Pg_init 2 none ∈ lw_g := lw_gin (List.mem_append_right _ (List.mem_of_getElem? (i := 59) rfl)) (by decide +kernel)
set_option maxRecDepth 100000 in
theorem mw_54 : Cond.methodLink R_Wr 20 y_Pg_init ∈ lw_g := lw_gin (List.mem_append_right _ (List.mem_of_getElem? (i := 57) rfl)) (by decide +kernel)
set_option maxRecDepth 100000 in
theorem mw_55 : Cond.instanceMethod y_Pg_init ∈ lw_g := lw_gin (List.mem_append_right _ (List.mem_of_getElem? (i := 58) rfl)) (by decide +kernel)
set_option maxRecDepth 100000 in
theorem mw_56 : Cond.fieldLink R_Wr 23 "WriteOnceDisc$Writer" "page" "LWriteOnceDisc$Page;" ∈ lw_g := lw_gin (List.mem_append_right _ (List.mem_of_getElem? (i := 70) rfl)) (by decide +kernel)
set_option maxRecDepth 100000 in
theorem mw_57 : Cond.methodLink R_Re 3 objectInit ∈ lw_g := lw_gin (List.mem_append_right _ (List.mem_of_getElem? (i := 81) rfl)) (by decide +kernel)
set_option maxRecDepth 100000 in
theorem mw_58 : Cond.classLink R_Re 9 R_Pg ∈ lw_g := lw_gin (List.mem_append_right _ (List.mem_of_getElem? (i := 82) rfl)) (by decide +kernel)
set_option maxRecDepth 100000 in
theorem mw_59 : Cond.methodLink R_Re 11 y_Pg_init ∈ lw_g := lw_gin (List.mem_append_right _ (List.mem_of_getElem? (i := 83) rfl)) (by decide +kernel)
set_option maxRecDepth 100000 in
theorem mw_60 : Cond.fieldLink R_Re 14 "WriteOnceDisc$Reader" "table" "LWriteOnceDisc$Page;" ∈ lw_g := lw_gin (List.mem_append_right _ (List.mem_of_getElem? (i := 154) rfl)) (by decide +kernel)
set_option maxRecDepth 100000 in
theorem mw_61 : Cond.classLink R_Re 20 R_No ∈ lw_g := lw_gin (List.mem_append_right _ (List.mem_of_getElem? (i := 84) rfl)) (by decide +kernel)
set_option maxRecDepth 100000 in
theorem mw_62 : Cond.fieldLink R_Re 23 "WriteOnceDisc$Reader" "told" "LWriteOnceDisc$Node;" ∈ lw_g := lw_gin (List.mem_append_right _ (List.mem_of_getElem? (i := 155) rfl)) (by decide +kernel)
set_option maxRecDepth 100000 in
theorem mw_63 : Cond.fieldLink R_Re 27 "WriteOnceDisc$Reader" "medium" "LWriteOnceDisc$Medium;" ∈ lw_g := lw_gin (List.mem_append_right _ (List.mem_of_getElem? (i := 156) rfl)) (by decide +kernel)
set_option maxRecDepth 100000 in
theorem mw_64 : Cond.fieldLink R_Re 31 "WriteOnceDisc$Reader" "nodes" "LWriteOnceDisc$Nodes;" ∈ lw_g := lw_gin (List.mem_append_right _ (List.mem_of_getElem? (i := 157) rfl)) (by decide +kernel)
set_option maxRecDepth 100000 in
theorem mw_65 : Cond.fieldLink R_Re 35 "WriteOnceDisc$Reader" "wrongPlace" "I" ∈ lw_g := lw_gin (List.mem_append_right _ (List.mem_of_getElem? (i := 158) rfl)) (by decide +kernel)
theorem d_Me_init_0 : decode b_Me_init 0 = .ok (.aload_n 0, 1) := by decide +kernel
theorem d_Me_init_1 : decode b_Me_init 1 = .ok (.invokespecial 3, 3) := by decide +kernel
theorem d_Me_init_4 : decode b_Me_init 4 = .ok (.aload_n 0, 1) := by decide +kernel
theorem d_Me_init_5 : decode b_Me_init 5 = .ok (.iconst 0, 1) := by decide +kernel
theorem d_Me_init_6 : decode b_Me_init 6 = .ok (.putfield 9, 3) := by decide +kernel
theorem d_Me_init_9 : decode b_Me_init 9 = .ok (.aload_n 0, 1) := by decide +kernel
theorem d_Me_init_10 : decode b_Me_init 10 = .ok (.iload_n 1, 1) := by decide +kernel
theorem d_Me_init_11 : decode b_Me_init 11 = .ok (.anewarray 15, 3) := by decide +kernel
theorem d_Me_init_14 : decode b_Me_init 14 = .ok (.putfield 17, 3) := by decide +kernel
theorem d_Me_init_17 : decode b_Me_init 17 = .ok (.iconst 0, 1) := by decide +kernel
theorem d_Me_init_18 : decode b_Me_init 18 = .ok (.istore_n 2, 1) := by decide +kernel
theorem d_Me_init_19 : decode b_Me_init 19 = .ok (.iload_n 2, 1) := by decide +kernel
theorem d_Me_init_20 : decode b_Me_init 20 = .ok (.iload_n 1, 1) := by decide +kernel
theorem d_Me_init_21 : decode b_Me_init 21 = .ok (.if_icmp .ge 22, 3) := by decide +kernel
theorem d_Me_init_43 : decode b_Me_init 43 = .ok (.return_, 1) := by decide +kernel
theorem d_Me_init_24 : decode b_Me_init 24 = .ok (.aload_n 0, 1) := by decide +kernel
theorem d_Me_init_25 : decode b_Me_init 25 = .ok (.getfield 17, 3) := by decide +kernel
theorem d_Me_init_28 : decode b_Me_init 28 = .ok (.iload_n 2, 1) := by decide +kernel
theorem d_Me_init_29 : decode b_Me_init 29 = .ok (.new 15, 3) := by decide +kernel
theorem d_Me_init_32 : decode b_Me_init 32 = .ok (.dup, 1) := by decide +kernel
theorem d_Me_init_33 : decode b_Me_init 33 = .ok (.invokespecial 21, 3) := by decide +kernel
theorem d_Me_init_36 : decode b_Me_init 36 = .ok (.aastore, 1) := by decide +kernel
theorem d_Me_init_37 : decode b_Me_init 37 = .ok (.iinc 2 1, 3) := by decide +kernel
theorem d_Me_init_40 : decode b_Me_init 40 = .ok (.goto (-21), 3) := by decide +kernel
theorem d_Ns_init_0 : decode b_Ns_init 0 = .ok (.aload_n 0, 1) := by decide +kernel
theorem d_Ns_init_1 : decode b_Ns_init 1 = .ok (.invokespecial 3, 3) := by decide +kernel
theorem d_Ns_init_4 : decode b_Ns_init 4 = .ok (.aload_n 0, 1) := by decide +kernel
theorem d_Ns_init_5 : decode b_Ns_init 5 = .ok (.bipush 30, 2) := by decide +kernel
theorem d_Ns_init_7 : decode b_Ns_init 7 = .ok (.anewarray 9, 3) := by decide +kernel
theorem d_Ns_init_10 : decode b_Ns_init 10 = .ok (.putfield 11, 3) := by decide +kernel
theorem d_Ns_init_13 : decode b_Ns_init 13 = .ok (.aload_n 0, 1) := by decide +kernel
theorem d_Ns_init_14 : decode b_Ns_init 14 = .ok (.bipush 30, 2) := by decide +kernel
theorem d_Ns_init_16 : decode b_Ns_init 16 = .ok (.anewarray 9, 3) := by decide +kernel
theorem d_Ns_init_19 : decode b_Ns_init 19 = .ok (.putfield 17, 3) := by decide +kernel
theorem d_Ns_init_22 : decode b_Ns_init 22 = .ok (.aload_n 0, 1) := by decide +kernel
theorem d_Ns_init_23 : decode b_Ns_init 23 = .ok (.iconst 1, 1) := by decide +kernel
theorem d_Ns_init_24 : decode b_Ns_init 24 = .ok (.putfield 20, 3) := by decide +kernel
theorem d_Ns_init_27 : decode b_Ns_init 27 = .ok (.aload_n 0, 1) := by decide +kernel
theorem d_Ns_init_28 : decode b_Ns_init 28 = .ok (.iconst 1, 1) := by decide +kernel
theorem d_Ns_init_29 : decode b_Ns_init 29 = .ok (.putfield 24, 3) := by decide +kernel
theorem d_Ns_init_32 : decode b_Ns_init 32 = .ok (.iconst 0, 1) := by decide +kernel
theorem d_Ns_init_33 : decode b_Ns_init 33 = .ok (.istore_n 1, 1) := by decide +kernel
theorem d_Ns_init_34 : decode b_Ns_init 34 = .ok (.iload_n 1, 1) := by decide +kernel
theorem d_Ns_init_35 : decode b_Ns_init 35 = .ok (.bipush 30, 2) := by decide +kernel
theorem d_Ns_init_37 : decode b_Ns_init 37 = .ok (.if_icmp .ge 34, 3) := by decide +kernel
theorem d_Ns_init_71 : decode b_Ns_init 71 = .ok (.return_, 1) := by decide +kernel
theorem d_Ns_init_40 : decode b_Ns_init 40 = .ok (.aload_n 0, 1) := by decide +kernel
theorem d_Ns_init_41 : decode b_Ns_init 41 = .ok (.getfield 11, 3) := by decide +kernel
theorem d_Ns_init_44 : decode b_Ns_init 44 = .ok (.iload_n 1, 1) := by decide +kernel
theorem d_Ns_init_45 : decode b_Ns_init 45 = .ok (.new 9, 3) := by decide +kernel
theorem d_Ns_init_48 : decode b_Ns_init 48 = .ok (.dup, 1) := by decide +kernel
theorem d_Ns_init_49 : decode b_Ns_init 49 = .ok (.invokespecial 27, 3) := by decide +kernel
theorem d_Ns_init_52 : decode b_Ns_init 52 = .ok (.aastore, 1) := by decide +kernel
theorem d_Ns_init_53 : decode b_Ns_init 53 = .ok (.aload_n 0, 1) := by decide +kernel
theorem d_Ns_init_54 : decode b_Ns_init 54 = .ok (.getfield 17, 3) := by decide +kernel
theorem d_Ns_init_57 : decode b_Ns_init 57 = .ok (.iload_n 1, 1) := by decide +kernel
theorem d_Ns_init_58 : decode b_Ns_init 58 = .ok (.aload_n 0, 1) := by decide +kernel
theorem d_Ns_init_59 : decode b_Ns_init 59 = .ok (.getfield 11, 3) := by decide +kernel
theorem d_Ns_init_62 : decode b_Ns_init 62 = .ok (.iload_n 1, 1) := by decide +kernel
theorem d_Ns_init_63 : decode b_Ns_init 63 = .ok (.aaload, 1) := by decide +kernel
theorem d_Ns_init_64 : decode b_Ns_init 64 = .ok (.aastore, 1) := by decide +kernel
theorem d_Ns_init_65 : decode b_Ns_init 65 = .ok (.iinc 1 1, 3) := by decide +kernel
theorem d_Ns_init_68 : decode b_Ns_init 68 = .ok (.goto (-34), 3) := by decide +kernel
theorem d_Wr_init_0 : decode b_Wr_init 0 = .ok (.aload_n 0, 1) := by decide +kernel
theorem d_Wr_init_1 : decode b_Wr_init 1 = .ok (.invokespecial 3, 3) := by decide +kernel
theorem d_Wr_init_4 : decode b_Wr_init 4 = .ok (.aload_n 0, 1) := by decide +kernel
theorem d_Wr_init_5 : decode b_Wr_init 5 = .ok (.new 9, 3) := by decide +kernel
theorem d_Wr_init_8 : decode b_Wr_init 8 = .ok (.dup, 1) := by decide +kernel
theorem d_Wr_init_9 : decode b_Wr_init 9 = .ok (.invokespecial 11, 3) := by decide +kernel
theorem d_Wr_init_12 : decode b_Wr_init 12 = .ok (.putfield 12, 3) := by decide +kernel
theorem d_Wr_init_15 : decode b_Wr_init 15 = .ok (.aload_n 0, 1) := by decide +kernel
theorem d_Wr_init_16 : decode b_Wr_init 16 = .ok (.new 18, 3) := by decide +kernel
theorem d_Wr_init_19 : decode b_Wr_init 19 = .ok (.dup, 1) := by decide +kernel
theorem d_Wr_init_20 : decode b_Wr_init 20 = .ok (.sipush 2048, 3) := by decide +kernel
theorem d_Wr_init_23 : decode b_Wr_init 23 = .ok (.invokespecial 20, 3) := by decide +kernel
theorem d_Wr_init_26 : decode b_Wr_init 26 = .ok (.putfield 23, 3) := by decide +kernel
theorem d_Wr_init_29 : decode b_Wr_init 29 = .ok (.return_, 1) := by decide +kernel
theorem d_Re_init_0 : decode b_Re_init 0 = .ok (.aload_n 0, 1) := by decide +kernel
theorem d_Re_init_1 : decode b_Re_init 1 = .ok (.invokespecial 3, 3) := by decide +kernel
theorem d_Re_init_4 : decode b_Re_init 4 = .ok (.aload_n 0, 1) := by decide +kernel
theorem d_Re_init_5 : decode b_Re_init 5 = .ok (.new 9, 3) := by decide +kernel
theorem d_Re_init_8 : decode b_Re_init 8 = .ok (.dup, 1) := by decide +kernel
theorem d_Re_init_9 : decode b_Re_init 9 = .ok (.sipush 480, 3) := by decide +kernel
theorem d_Re_init_12 : decode b_Re_init 12 = .ok (.invokespecial 11, 3) := by decide +kernel
theorem d_Re_init_15 : decode b_Re_init 15 = .ok (.putfield 14, 3) := by decide +kernel
theorem d_Re_init_18 : decode b_Re_init 18 = .ok (.aload_n 0, 1) := by decide +kernel
theorem d_Re_init_19 : decode b_Re_init 19 = .ok (.new 20, 3) := by decide +kernel
theorem d_Re_init_22 : decode b_Re_init 22 = .ok (.dup, 1) := by decide +kernel
theorem d_Re_init_23 : decode b_Re_init 23 = .ok (.invokespecial 22, 3) := by decide +kernel
theorem d_Re_init_26 : decode b_Re_init 26 = .ok (.putfield 23, 3) := by decide +kernel
theorem d_Re_init_29 : decode b_Re_init 29 = .ok (.aload_n 0, 1) := by decide +kernel
theorem d_Re_init_30 : decode b_Re_init 30 = .ok (.aconst_null, 1) := by decide +kernel
theorem d_Re_init_31 : decode b_Re_init 31 = .ok (.putfield 27, 3) := by decide +kernel
theorem d_Re_init_34 : decode b_Re_init 34 = .ok (.aload_n 0, 1) := by decide +kernel
theorem d_Re_init_35 : decode b_Re_init 35 = .ok (.aconst_null, 1) := by decide +kernel
theorem d_Re_init_36 : decode b_Re_init 36 = .ok (.putfield 31, 3) := by decide +kernel
theorem d_Re_init_39 : decode b_Re_init 39 = .ok (.aload_n 0, 1) := by decide +kernel
theorem d_Re_init_40 : decode b_Re_init 40 = .ok (.iconst 0, 1) := by decide +kernel
theorem d_Re_init_41 : decode b_Re_init 41 = .ok (.putfield 35, 3) := by decide +kernel
theorem d_Re_init_44 : decode b_Re_init 44 = .ok (.return_, 1) := by decide +kernel
set_option maxHeartbeats 4000000 in
set_option maxRecDepth 100000 in
theorem c_Medium_init (l : Launch) (D : va_G) (t : Nat → ClassId) (G : Heap) (ak av : Nat → Nat) (h : hM) (h0 n : Nat) (f_h0 : h h0 = some (.inr (0, [.null, .int 0]))) (hn : n ≤ 200) : Met l y_Me_init (.code y_Me_init b_Me_init 3 none :: lw_g) { frames := 2, cells := 201, slots := 800, locals := 32 } (hP (kE D t G ak av) D vwCl G h [.ref h0, .int (nI n)]) (hQv D vwCl G (fun h' => kp [h0] h h' ∧ ∃ (sa : Nat) (f : Nat → Option Nat), h' h0 = some (.inr (0, [.ref sa, .int 0])) ∧ h' sa = some (.inl (t 5, n, .inr (.inr (.inr (.inr f))))) ∧ rowP (.inr (6, [.int 0, .int 0, .null])) f 0 n h')) 201 800 (fun q => G.size ≤ q) := by
  refine Met.ofW (cc := b_Me_init) (maxL := 3) (ret := none) (by decide) rfl ?_
  intro p e s m args below meth c s₁ Bd hml hv
  obtain ⟨ha, hE, hH⟩ := hv
  have hx := Bd.exec
  have hb := Bd.bytes
  have hr := Bd.returns
  have hts : ∀ w ∈ lw_g, w.before args s = true := fun w hw => atoms_spec (ws := (.code y_Me_init b_Me_init 3 none :: lw_g)) Bd.pre w (List.mem_cons_of_mem _ hw)
  have hown : s.vm.findClass R_Me = some m.cls := findClass_of_methodNamed Bd.named
  have hlocks := Bd.notSynchronized
  have hin : meth.name = "<init>" := (name_of_methodNamed Bd.named Bd.method).1
  have hK := hE.1
  have hH0 := hH
  have hLo : hLc G.size [] := hLc_nil
  have hz : s.heap.size ≤ s.heap.size := Nat.le_refl _
  have hkp : kp [h0] h h := kp_rf
  have hl := lv_entry [.ref h0, .int (nI n)] (n := 3) (Nat.le_of_ble_eq_true rfl)
  rw [show entryFrame m args 3 = F0 m 0 ((lg_sl [.ref h0, .int (nI n)] ++ List.replicate (3 - (lg_sl [.ref h0, .int (nI n)]).length) Slot.unset).toArray) [] from (by rw [ha]; exact lg_entry_eq m [.ref h0, .int (nI n)] 3)]
  generalize (lg_sl [.ref h0, .int (nI n)] ++ List.replicate (3 - (lg_sl [.ref h0, .int (nI n)]).length) Slot.unset).toArray = ls at hl ⊢
  have hl : lv_has ls 3 [(0, .ref h0), (1, .int (nI n))] := hl
  refine lv_aload_n hx hb d_Me_init_0 rfl (lv_at hl 0 rfl) ?_
  refine W.objInit hx hb hown (hts _ mw_25) (hts _ mw_1) (hts _ mw_2) rfl (by rw [hml]; exact hl.1) rfl d_Me_init_1 (Nat.le_of_ble_eq_true rfl) (Nat.le_of_ble_eq_true rfl) ?_
  refine W.eq (g2 := F0 m 4 ls []) rfl ?_
  refine lv_aload_n hx hb d_Me_init_4 rfl (lv_at hl 0 rfl) ?_
  refine lv_iconst (v := 0) hx hb d_Me_init_5 (by decide) ?_
  refine hm_put (ci := 0) (v := .int 0) (ty := .int) (C := R_Me) (T := F_Me) (N := 2) hx hb hts ig_Me t_Me tk_Me nm_Me hown hK hH hLo f_h0 rfl 1 (by decide) (hts _ mw_26) (fun _ h9 => h9) rfl (by decide +kernel) rfl rfl (Nat.le_of_ble_eq_true rfl) d_Me_init_6 (fun H1 locs hH z2 hLo => ?_)
  have hz : s.heap.size ≤ H1.size := by rw [z2]; exact hz
  obtain ⟨h3, e4⟩ : ∃ z, z = hu h h0 (.inr (0, [.null, .int 0])) := ⟨_, rfl⟩
  have hH : hm D vwCl G h3 H1 := by rw [e4]; exact hH
  have f_h0 : h3 h0 = some (.inr (0, [.null, .int 0])) := by rw [e4]; exact hu_s _ _ _
  have hkp : kp [h0] h h3 := by rw [e4]; exact kp_put hkp (by simp)
  refine lv_aload_n hx hb d_Me_init_9 rfl (lv_at hl 0 rfl) ?_
  refine lv_iload_n hx hb d_Me_init_10 rfl (lv_at hl 1 rfl) ?_
  refine hm_newq (C := R_Se) (N' := n) hx hb hown (hts _ mw_27) (hE.2.2.2.1 R_Se (by decide +kernel)) hK hH 5 (cA := (t 5)) rfl (nI_pos (by omega)) (nI_clamp (by omega)) (by omega) (Nat.le_of_ble_eq_true rfl) (by show 0 + n ≤ 800; omega) d_Me_init_11 (fun q6 H5 hq7 hn8 hH z9 => ?_)
  have hz : s.heap.size ≤ H5.size := by rw [z9]; exact Nat.le_succ_of_le hz
  obtain ⟨h10, e11⟩ : ∃ z, z = hu h3 q6 (.inl ((t 5), n, .inr (.inr (.inr (.inr (fun _ => none)))))) := ⟨_, rfl⟩
  have hH : hm D vwCl G h10 H5 := by rw [e11]; exact hH
  have nb_h_q6 : h q6 = none := kp_none hkp hn8 (nmc (Ne.symm (h_nf hn8 f_h0)) nm0)
  have hkp : kp [h0] h h10 := by rw [e11]; exact kp_new hkp hn8
  have ne_h0_q6 : h0 ≠ q6 := h_nf hn8 f_h0
  have f_h0 : h10 h0 = some (.inr (0, [.null, .int 0])) := by rw [e11, hu_n ne_h0_q6]; exact f_h0
  have f_sa : h10 q6 = some (.inl ((t 5), n, .inr (.inr (.inr (.inr (fun _ => none)))))) := by rw [e11]; exact hu_s _ _ _
  refine hm_putF (ci := 0) (v := .ref q6) (ty := (.array (.object "WriteOnceDisc$Sector"))) (C := R_Me) (T := F_Me) (N := 2) hx hb hts ig_Me t_Me tk_Me nm_Me hown hK hH hLo f_h0 rfl 0 (by decide) (hts _ mw_28) (fun _ h9 => h9) rfl hin rfl (by decide +kernel) rfl rfl (Nat.le_of_ble_eq_true rfl) d_Me_init_14 (fun H12 locs hH z13 hLo => ?_)
  have hz : s.heap.size ≤ H12.size := by rw [z13]; exact hz
  obtain ⟨h14, e15⟩ : ∃ z, z = hu h10 h0 (.inr (0, [.ref q6, .int 0])) := ⟨_, rfl⟩
  have hH : hm D vwCl G h14 H12 := by rw [e15]; exact hH
  have f_sa : h14 q6 = some (.inl ((t 5), n, .inr (.inr (.inr (.inr (fun _ => none)))))) := by rw [e15, hu_n (Ne.symm ne_h0_q6)]; exact f_sa
  have f_h0 : h14 h0 = some (.inr (0, [.ref q6, .int 0])) := by rw [e15]; exact hu_s _ _ _
  have hkp : kp [h0] h h14 := by rw [e15]; exact kp_put hkp (by simp)
  refine lv_iconst (v := 0) hx hb d_Me_init_17 (by decide) ?_
  refine lv_topi (fun v16 e17 => ?_)
  obtain rfl : v16 = nI 0 := e17.trans (nI_0.symm)
  refine lv_istore_n (lv' := [(2, .int (nI 0)), (0, .ref h0), (1, .int (nI n))]) hx hb d_Me_init_18 rfl hl (by decide) rfl (fun ls hl => ?_)
  refine hm_loopC (fun k ls H locs hh cs ss => ∃ (i : Nat) (f : Nat → Option Nat), k = n - i ∧ cs = 1 + i ∧ ss = n + 3 * i ∧ lv_has ls 3 [(2, .int (nI i)), (0, .ref h0), (1, .int (nI n))] ∧ hm D vwCl G hh H ∧ s.heap.size ≤ H.size ∧ hLc G.size locs ∧ kp [h0] h hh ∧ hh h0 = some (.inr (0, [.ref q6, .int 0])) ∧ hh q6 = some (.inl ((t 5), n, .inr (.inr (.inr (.inr f))))) ∧ (∀ j, j < i → ∃ a, f j = some a ∧ hh a = some (.inr (6, [.int 0, .int 0, .null]))) ∧ (∀ j k, j < i → k < i → f j = f k → j = k) ∧ (i ≤ n)) ?_ (hh := h14) ⟨0, _, rfl, (by omega), (by omega), (lv_sub hl [0, 1, 2] rfl), hH, hz, hLo, hkp, f_h0, f_sa, fun j hj => absurd hj (Nat.not_lt_zero j), fun j _ hj => absurd hj (Nat.not_lt_zero j), by omega⟩
  rintro k ls H locs hh cs ss ⟨i, f, hk, rfl, rfl, hl, hH, hz, hLo, hkp, f_h0, f_sa, hsec, hinj, hi⟩ ih
  have hkl : kp [q6] hh hh := kp_rf
  refine lv_iload_n hx hb d_Me_init_19 rfl (lv_at hl 0 rfl) ?_
  refine lv_iload_n hx hb d_Me_init_20 rfl (lv_at hl 2 rfl) ?_
  have f_sa0 := f_sa
  have hsec0 := hsec
  refine lv_icmp_ge (tgt := 43) hx hb d_Me_init_21 (by decide) (fun hc18 => ?_) (fun hc18 => ?_)
  · skip
    have hin : i = n := by
      have h8 := (nI_leI (by omega) (by omega)).mp hc18
      omega
    refine W.widen (k := 201) (n := 800) (by omega) (by omega) ?_
    exact W.vret hx hb hr (fun t9 ht hW => ⟨hh, rfl, ⟨hkp, q6, f, f_h0, f_sa, fun j k hj hk9 => hinj j k (by omega) (by omega), fun j _ hj => hsec j (by omega)⟩, by rw [ht]; exact hH, by rw [ht]; exact hz⟩) hLo d_Me_init_43
  · skip
    have hin : i < n := by
      have h8 := mt (nI_leI (by omega) (by omega)).mpr hc18
      omega
    refine lv_aload_n hx hb d_Me_init_24 rfl (lv_at hl 1 rfl) ?_
    refine hm_get (ci := 0) (v := .ref q6) (C := R_Me) (T := F_Me) (N := 2) hx hb hts ig_Me hown hK hH f_h0 rfl 0 (by decide) (hts _ mw_28) (fun _ h9 => h9) rfl d_Me_init_25 ?_
    refine lv_iload_n hx hb d_Me_init_28 rfl (lv_at hl 0 rfl) ?_
    refine hm_new (ci := 6) (fs := [.int 0, .int 0, .null]) (C := R_Se) (T := F_Se) (N := 3) hx hb hts ig_Se t_Se tk_Se hown (hts _ mw_27) (hts _ mw_29) (hts _ mw_30) hK hH rfl df_Se (by show 1 + i + 1 ≤ 201; omega) (by show n + 3 * i + 3 ≤ 800; omega) d_Me_init_29 (fun q20 H19 hq21 hn22 hH z23 => ?_)
    have hz : s.heap.size ≤ H19.size := by rw [z23]; exact Nat.le_succ_of_le hz
    obtain ⟨h24, e25⟩ : ∃ z, z = hu hh q20 (.inr (6, [.int 0, .int 0, .null])) := ⟨_, rfl⟩
    have hH : hm D vwCl G h24 H19 := by rw [e25]; exact hH
    have nb_h_q20 : h q20 = none := kp_none hkp hn22 (nmc (Ne.symm (h_nf hn22 f_h0)) nm0)
    have nb_hh_q20 : hh q20 = none := kp_none hkl hn22 (nmc (Ne.symm (h_nf hn22 f_sa)) nm0)
    have hkp : kp [h0] h h24 := by rw [e25]; exact kp_new hkp hn22
    have hkl : kp [q6] hh h24 := by rw [e25]; exact kp_new hkl hn22
    have ne_h0_q20 : h0 ≠ q20 := h_nf hn22 f_h0
    have f_h0 : h24 h0 = some (.inr (0, [.ref q6, .int 0])) := by rw [e25, hu_n ne_h0_q20]; exact f_h0
    have ne_q6_q20 : q6 ≠ q20 := h_nf hn22 f_sa
    have f_sa : h24 q6 = some (.inl ((t 5), n, .inr (.inr (.inr (.inr f))))) := by rw [e25, hu_n ne_q6_q20]; exact f_sa
    have f_q : h24 q20 = some (.inr (6, [.int 0, .int 0, .null])) := by rw [e25]; exact hu_s _ _ _
    refine lv_dup hx hb d_Me_init_32 rfl ?_
    refine hm_callv (va_runIN (As := []) (b := q20) (rest := [.ref q20, .int (nI i), .ref q6]) ⟨hx, hb, hml, hown, hts⟩ (c_Sector_init l D t G ak av h24 q20 f_q) ⟨cw9N 0 hts mw_31 (nmU hE nM_5) mw_30 rfl rfl (by decide +kernel) ⟨Nat.le_of_ble_eq_true rfl, Nat.le_of_ble_eq_true rfl⟩, rfl, hts _ mw_32⟩ (hP_S kE_ok hE hH) rfl rfl hl.1 rfl (lv_room (Nat.le_of_ble_eq_true rfl)) d_Me_init_33 ⟨by show 1 + i + 1 + 0 ≤ 201; omega, by show n + 3 * i + 3 + 0 ≤ 800; omega⟩) hLo (fun h26 H27 locs hp29 hH z28 hLo => ?_)
    have hz : s.heap.size ≤ H27.size := Nat.le_trans hz z28
    obtain ⟨hk9, hq9⟩ := hp29
    have f_h0 : h26 h0 = some (.inr (0, [.ref q6, .int 0])) := kp_at hk9 f_h0 (nmc ne_h0_q20 nm0)
    have f_sa : h26 q6 = some (.inl ((t 5), n, .inr (.inr (.inr (.inr f))))) := kp_at hk9 f_sa (nmc ne_q6_q20 nm0)
    have hkp : kp [h0] h h26 := kp_tr2 hkp hk9 (List.forall_mem_cons.mpr ⟨Or.inr nb_h_q20, List.forall_mem_nil _⟩)
    have hkl : kp [q6] hh h26 := kp_tr2 hkl hk9 (List.forall_mem_cons.mpr ⟨Or.inr nb_hh_q20, List.forall_mem_nil _⟩)
    have f_q : h26 q20 = some (.inr (6, [.int 0, .int 0, .null])) := hq9
    refine hj_aast hx hb hK hH hLo 5 6 f_sa rfl f_q rfl i rfl hin (by omega) d_Me_init_36 (fun H30 locs hH z31 hLo => ?_)
    have hz : s.heap.size ≤ H30.size := by rw [z31]; exact hz
    obtain ⟨h32, e33⟩ : ∃ z, z = hu h26 q6 (.inl ((t 5), n, .inr (.inr (.inr (.inr (va_up f i (some q20))))))) := ⟨_, rfl⟩
    have hH : hm D vwCl G h32 H30 := by rw [e33]; exact hH
    have f_h0 : h32 h0 = some (.inr (0, [.ref q6, .int 0])) := by rw [e33, hu_n ne_h0_q6]; exact f_h0
    have f_q : h32 q20 = some (.inr (6, [.int 0, .int 0, .null])) := by rw [e33, hu_n (Ne.symm ne_q6_q20)]; exact f_q
    have f_sa : h32 q6 = some (.inl ((t 5), n, .inr (.inr (.inr (.inr (va_up f i (some q20))))))) := by rw [e33]; exact hu_s _ _ _
    have hkp : kp [h0] h h32 := by rw [e33]; exact kp_putN hkp nb_h_q6
    have hkl : kp [q6] hh h32 := by rw [e33]; exact kp_put hkl (by simp)
    have hsec : ∀ j, j < i + 1 → ∃ a, (va_up f i (some q20)) j = some a ∧ h32 a = some (.inr (6, [.int 0, .int 0, .null])) := by
      intro j hj
      by_cases hji : j = i
      · subst hji
        exact ⟨q20, va_up_self _ _ _, f_q⟩
      · obtain ⟨a, h1, h2⟩ := hsec j (by omega)
        exact ⟨a, by rw [va_up_ne _ _ hji]; exact h1, kp_at hkl h2 (nmc (Ne.symm (h_neA f_sa0 h2)) nm0)⟩
    have hinj2 : ∀ j k, j < i + 1 → k < i + 1 → (va_up f i (some q20)) j = (va_up f i (some q20)) k → j = k := by
      intro j k hj hk2 e9
      by_cases hji : j = i <;> by_cases hki : k = i
      · omega
      · rw [hji, va_up_self, va_up_ne _ _ hki] at e9
        obtain ⟨a, h1, h3⟩ := hsec0 k (by omega)
        rw [h1] at e9
        exact absurd (Option.some.inj e9).symm (fun z => by rw [z, nb_hh_q20] at h3; cases h3)
      · rw [hki, va_up_self, va_up_ne _ _ hji] at e9
        obtain ⟨a, h1, h3⟩ := hsec0 j (by omega)
        rw [h1] at e9
        exact absurd (Option.some.inj e9) (fun z => by rw [z, nb_hh_q20] at h3; cases h3)
      · rw [va_up_ne _ _ hji, va_up_ne _ _ hki] at e9
        exact hinj j k (by omega) (by omega) e9
    refine lv_iinc (v := nI (i + 1)) (lv' := [(2, .int (nI (i + 1))), (0, .ref h0), (1, .int (nI n))]) hx hb d_Me_init_37 hl (k := 0) rfl (nI_1 i) (by decide) rfl (fun ls hl => ?_)
    refine lv_goto (tgt := 19) hx hb d_Me_init_40 (by decide) ?_
    exact ih (n - (i + 1)) ls _ locs _ _ _ (by rw [hk]; omega) ⟨(i + 1), _, rfl, (by omega), (by omega), (lv_sub hl [0, 1, 2] rfl), hH, hz, hLo, hkp, f_h0, f_sa, hsec, hinj2, by omega⟩

set_option maxHeartbeats 4000000 in
set_option maxRecDepth 100000 in
theorem c_Nodes_init (l : Launch) (D : va_G) (t : Nat → ClassId) (G : Heap) (ak av : Nat → Nat) (h : hM) (h0 : Nat) (f_h0 : h h0 = some (.inr (2, [.null, .null, .int 0, .int 0]))) : Met l y_Ns_init (.code y_Ns_init b_Ns_init 2 none :: lw_g) { frames := 2, cells := 32, slots := 390, locals := 32 } (hP (kE D t G ak av) D vwCl G h [.ref h0]) (hQv D vwCl G (fun h' => kp [h0] h h' ∧ ∃ (sl od : Nat) (f g : Nat → Option Nat), h' h0 = some (.inr (2, [.ref sl, .ref od, .int 1, .int 1])) ∧ h' sl = some (.inl (t 4, 30, .inr (.inr (.inr (.inr f))))) ∧ h' od = some (.inl (t 4, 30, .inr (.inr (.inr (.inr g))))) ∧ (∀ j, j < 30 → ∃ a, f j = some a ∧ g j = some a ∧ h' a = some (.inr (1, [.int 0, .null, .int 1, .long 0, .int 0, .int 0, .int 0, .int 0, .int 0, .int 0, .int 1]))) ∧ (∀ j k, j < 30 → k < 30 → f j = f k → j = k) ∧ sl ≠ od)) 32 390 (fun q => G.size ≤ q) := by
  refine Met.ofW (cc := b_Ns_init) (maxL := 2) (ret := none) (by decide) rfl ?_
  intro p e s m args below meth c s₁ Bd hml hv
  obtain ⟨ha, hE, hH⟩ := hv
  have hx := Bd.exec
  have hb := Bd.bytes
  have hr := Bd.returns
  have hts : ∀ w ∈ lw_g, w.before args s = true := fun w hw => atoms_spec (ws := (.code y_Ns_init b_Ns_init 2 none :: lw_g)) Bd.pre w (List.mem_cons_of_mem _ hw)
  have hown : s.vm.findClass R_Ns = some m.cls := findClass_of_methodNamed Bd.named
  have hlocks := Bd.notSynchronized
  have hin : meth.name = "<init>" := (name_of_methodNamed Bd.named Bd.method).1
  have hK := hE.1
  have hH0 := hH
  have hLo : hLc G.size [] := hLc_nil
  have hz : s.heap.size ≤ s.heap.size := Nat.le_refl _
  have hkp : kp [h0] h h := kp_rf
  have hl := lv_entry [.ref h0] (n := 2) (Nat.le_of_ble_eq_true rfl)
  rw [show entryFrame m args 2 = F0 m 0 ((lg_sl [.ref h0] ++ List.replicate (2 - (lg_sl [.ref h0]).length) Slot.unset).toArray) [] from (by rw [ha]; exact lg_entry_eq m [.ref h0] 2)]
  generalize (lg_sl [.ref h0] ++ List.replicate (2 - (lg_sl [.ref h0]).length) Slot.unset).toArray = ls at hl ⊢
  have hl : lv_has ls 2 [(0, .ref h0)] := hl
  refine lv_aload_n hx hb d_Ns_init_0 rfl (lv_at hl 0 rfl) ?_
  refine W.objInit hx hb hown (hts _ mw_33) (hts _ mw_1) (hts _ mw_2) rfl (by rw [hml]; exact hl.1) rfl d_Ns_init_1 (Nat.le_of_ble_eq_true rfl) (Nat.le_of_ble_eq_true rfl) ?_
  refine W.eq (g2 := F0 m 4 ls []) rfl ?_
  refine lv_aload_n hx hb d_Ns_init_4 rfl (lv_at hl 0 rfl) ?_
  refine lv_bipush (v := 30) hx hb d_Ns_init_5 (by decide) ?_
  refine hm_newq (C := R_No) (N' := 30) hx hb hown (hts _ mw_34) (hE.2.2.2.1 R_No (by decide +kernel)) hK hH 4 (cA := (t 4)) rfl (by decide) (by decide) (by decide) (Nat.le_of_ble_eq_true rfl) (Nat.le_of_ble_eq_true rfl) d_Ns_init_7 (fun q2 H1 hq3 hn4 hH z5 => ?_)
  have hz : s.heap.size ≤ H1.size := by rw [z5]; exact Nat.le_succ_of_le hz
  obtain ⟨h6, e7⟩ : ∃ z, z = hu h q2 (.inl ((t 4), 30, .inr (.inr (.inr (.inr (fun _ => none)))))) := ⟨_, rfl⟩
  have hH : hm D vwCl G h6 H1 := by rw [e7]; exact hH
  have nb_h_q2 : h q2 = none := kp_none hkp hn4 (nmc (Ne.symm (h_nf hn4 f_h0)) nm0)
  have hkp : kp [h0] h h6 := by rw [e7]; exact kp_new hkp hn4
  have ne_h0_q2 : h0 ≠ q2 := h_nf hn4 f_h0
  have f_h0 : h6 h0 = some (.inr (2, [.null, .null, .int 0, .int 0])) := by rw [e7, hu_n ne_h0_q2]; exact f_h0
  have f_sl : h6 q2 = some (.inl ((t 4), 30, .inr (.inr (.inr (.inr (fun _ => none)))))) := by rw [e7]; exact hu_s _ _ _
  refine hm_putF (ci := 2) (v := .ref q2) (ty := (.array (.object "WriteOnceDisc$Node"))) (C := R_Ns) (T := F_Ns) (N := 4) hx hb hts ig_Ns t_Ns tk_Ns nm_Ns hown hK hH hLo f_h0 rfl 0 (by decide) (hts _ mw_35) (fun _ h9 => h9) rfl hin rfl (by decide +kernel) rfl rfl (Nat.le_of_ble_eq_true rfl) d_Ns_init_10 (fun H8 locs hH z9 hLo => ?_)
  have hz : s.heap.size ≤ H8.size := by rw [z9]; exact hz
  obtain ⟨h10, e11⟩ : ∃ z, z = hu h6 h0 (.inr (2, [.ref q2, .null, .int 0, .int 0])) := ⟨_, rfl⟩
  have hH : hm D vwCl G h10 H8 := by rw [e11]; exact hH
  have f_sl : h10 q2 = some (.inl ((t 4), 30, .inr (.inr (.inr (.inr (fun _ => none)))))) := by rw [e11, hu_n (Ne.symm ne_h0_q2)]; exact f_sl
  have f_h0 : h10 h0 = some (.inr (2, [.ref q2, .null, .int 0, .int 0])) := by rw [e11]; exact hu_s _ _ _
  have hkp : kp [h0] h h10 := by rw [e11]; exact kp_put hkp (by simp)
  refine lv_aload_n hx hb d_Ns_init_13 rfl (lv_at hl 0 rfl) ?_
  refine lv_bipush (v := 30) hx hb d_Ns_init_14 (by decide) ?_
  refine hm_newq (C := R_No) (N' := 30) hx hb hown (hts _ mw_34) (hE.2.2.2.1 R_No (by decide +kernel)) hK hH 4 (cA := (t 4)) rfl (by decide) (by decide) (by decide) (Nat.le_of_ble_eq_true rfl) (Nat.le_of_ble_eq_true rfl) d_Ns_init_16 (fun q13 H12 hq14 hn15 hH z16 => ?_)
  have hz : s.heap.size ≤ H12.size := by rw [z16]; exact Nat.le_succ_of_le hz
  obtain ⟨h17, e18⟩ : ∃ z, z = hu h10 q13 (.inl ((t 4), 30, .inr (.inr (.inr (.inr (fun _ => none)))))) := ⟨_, rfl⟩
  have hH : hm D vwCl G h17 H12 := by rw [e18]; exact hH
  have nb_h_q13 : h q13 = none := kp_none hkp hn15 (nmc (Ne.symm (h_nf hn15 f_h0)) nm0)
  have hkp : kp [h0] h h17 := by rw [e18]; exact kp_new hkp hn15
  have ne_h0_q13 : h0 ≠ q13 := h_nf hn15 f_h0
  have f_h0 : h17 h0 = some (.inr (2, [.ref q2, .null, .int 0, .int 0])) := by rw [e18, hu_n ne_h0_q13]; exact f_h0
  have ne_q2_q13 : q2 ≠ q13 := h_nf hn15 f_sl
  have f_sl : h17 q2 = some (.inl ((t 4), 30, .inr (.inr (.inr (.inr (fun _ => none)))))) := by rw [e18, hu_n ne_q2_q13]; exact f_sl
  have f_or : h17 q13 = some (.inl ((t 4), 30, .inr (.inr (.inr (.inr (fun _ => none)))))) := by rw [e18]; exact hu_s _ _ _
  refine hm_putF (ci := 2) (v := .ref q13) (ty := (.array (.object "WriteOnceDisc$Node"))) (C := R_Ns) (T := F_Ns) (N := 4) hx hb hts ig_Ns t_Ns tk_Ns nm_Ns hown hK hH hLo f_h0 rfl 1 (by decide) (hts _ mw_36) (fun _ h9 => h9) rfl hin rfl (by decide +kernel) rfl rfl (Nat.le_of_ble_eq_true rfl) d_Ns_init_19 (fun H19 locs hH z20 hLo => ?_)
  have hz : s.heap.size ≤ H19.size := by rw [z20]; exact hz
  obtain ⟨h21, e22⟩ : ∃ z, z = hu h17 h0 (.inr (2, [.ref q2, .ref q13, .int 0, .int 0])) := ⟨_, rfl⟩
  have hH : hm D vwCl G h21 H19 := by rw [e22]; exact hH
  have f_sl : h21 q2 = some (.inl ((t 4), 30, .inr (.inr (.inr (.inr (fun _ => none)))))) := by rw [e22, hu_n (Ne.symm ne_h0_q2)]; exact f_sl
  have f_or : h21 q13 = some (.inl ((t 4), 30, .inr (.inr (.inr (.inr (fun _ => none)))))) := by rw [e22, hu_n (Ne.symm ne_h0_q13)]; exact f_or
  have f_h0 : h21 h0 = some (.inr (2, [.ref q2, .ref q13, .int 0, .int 0])) := by rw [e22]; exact hu_s _ _ _
  have hkp : kp [h0] h h21 := by rw [e22]; exact kp_put hkp (by simp)
  refine lv_aload_n hx hb d_Ns_init_22 rfl (lv_at hl 0 rfl) ?_
  refine lv_iconst (v := 1) hx hb d_Ns_init_23 (by decide) ?_
  refine hm_put (ci := 2) (v := .int 1) (ty := .int) (C := R_Ns) (T := F_Ns) (N := 4) hx hb hts ig_Ns t_Ns tk_Ns nm_Ns hown hK hH hLo f_h0 rfl 2 (by decide) (hts _ mw_37) (fun _ h9 => h9) rfl (by decide +kernel) rfl rfl (Nat.le_of_ble_eq_true rfl) d_Ns_init_24 (fun H23 locs hH z24 hLo => ?_)
  have hz : s.heap.size ≤ H23.size := by rw [z24]; exact hz
  obtain ⟨h25, e26⟩ : ∃ z, z = hu h21 h0 (.inr (2, [.ref q2, .ref q13, .int 1, .int 0])) := ⟨_, rfl⟩
  have hH : hm D vwCl G h25 H23 := by rw [e26]; exact hH
  have f_sl : h25 q2 = some (.inl ((t 4), 30, .inr (.inr (.inr (.inr (fun _ => none)))))) := by rw [e26, hu_n (Ne.symm ne_h0_q2)]; exact f_sl
  have f_or : h25 q13 = some (.inl ((t 4), 30, .inr (.inr (.inr (.inr (fun _ => none)))))) := by rw [e26, hu_n (Ne.symm ne_h0_q13)]; exact f_or
  have f_h0 : h25 h0 = some (.inr (2, [.ref q2, .ref q13, .int 1, .int 0])) := by rw [e26]; exact hu_s _ _ _
  have hkp : kp [h0] h h25 := by rw [e26]; exact kp_put hkp (by simp)
  refine lv_aload_n hx hb d_Ns_init_27 rfl (lv_at hl 0 rfl) ?_
  refine lv_iconst (v := 1) hx hb d_Ns_init_28 (by decide) ?_
  refine hm_put (ci := 2) (v := .int 1) (ty := .int) (C := R_Ns) (T := F_Ns) (N := 4) hx hb hts ig_Ns t_Ns tk_Ns nm_Ns hown hK hH hLo f_h0 rfl 3 (by decide) (hts _ mw_38) (fun _ h9 => h9) rfl (by decide +kernel) rfl rfl (Nat.le_of_ble_eq_true rfl) d_Ns_init_29 (fun H27 locs hH z28 hLo => ?_)
  have hz : s.heap.size ≤ H27.size := by rw [z28]; exact hz
  obtain ⟨h29, e30⟩ : ∃ z, z = hu h25 h0 (.inr (2, [.ref q2, .ref q13, .int 1, .int 1])) := ⟨_, rfl⟩
  have hH : hm D vwCl G h29 H27 := by rw [e30]; exact hH
  have f_sl : h29 q2 = some (.inl ((t 4), 30, .inr (.inr (.inr (.inr (fun _ => none)))))) := by rw [e30, hu_n (Ne.symm ne_h0_q2)]; exact f_sl
  have f_or : h29 q13 = some (.inl ((t 4), 30, .inr (.inr (.inr (.inr (fun _ => none)))))) := by rw [e30, hu_n (Ne.symm ne_h0_q13)]; exact f_or
  have f_h0 : h29 h0 = some (.inr (2, [.ref q2, .ref q13, .int 1, .int 1])) := by rw [e30]; exact hu_s _ _ _
  have hkp : kp [h0] h h29 := by rw [e30]; exact kp_put hkp (by simp)
  refine lv_iconst (v := 0) hx hb d_Ns_init_32 (by decide) ?_
  refine lv_topi (fun v31 e32 => ?_)
  obtain rfl : v31 = nI 0 := e32.trans (nI_0.symm)
  refine lv_istore_n (lv' := [(1, .int (nI 0)), (0, .ref h0)]) hx hb d_Ns_init_33 rfl hl (by decide) rfl (fun ls hl => ?_)
  refine hm_loopC (fun k ls H locs hh cs ss => ∃ (i : Nat) (f : Nat → Option Nat) (g : Nat → Option Nat), k = 30 - i ∧ cs = 2 + i ∧ ss = 60 + 11 * i ∧ lv_has ls 2 [(1, .int (nI i)), (0, .ref h0)] ∧ hm D vwCl G hh H ∧ s.heap.size ≤ H.size ∧ hLc G.size locs ∧ kp [h0] h hh ∧ hh h0 = some (.inr (2, [.ref q2, .ref q13, .int 1, .int 1])) ∧ hh q2 = some (.inl ((t 4), 30, .inr (.inr (.inr (.inr f))))) ∧ hh q13 = some (.inl ((t 4), 30, .inr (.inr (.inr (.inr g))))) ∧ (∀ j, j < i → ∃ a, f j = some a ∧ g j = some a ∧ hh a = some (.inr (1, [.int 0, .null, .int 1, .long 0, .int 0, .int 0, .int 0, .int 0, .int 0, .int 0, .int 1]))) ∧ (∀ j k, j < i → k < i → f j = f k → j = k) ∧ (i ≤ 30)) ?_ (hh := h29) ⟨0, _, _, rfl, (by omega), (by omega), (lv_sub hl [0, 1] rfl), hH, hz, hLo, hkp, f_h0, f_sl, f_or, fun j hj => absurd hj (Nat.not_lt_zero j), fun j _ hj => absurd hj (Nat.not_lt_zero j), by omega⟩
  rintro k ls H locs hh cs ss ⟨i, f, g, hk, rfl, rfl, hl, hH, hz, hLo, hkp, f_h0, f_sl, f_or, hnod, hinj, hi⟩ ih
  have hkl : kp [q2, q13] hh hh := kp_rf
  refine lv_iload_n hx hb d_Ns_init_34 rfl (lv_at hl 0 rfl) ?_
  refine lv_bipush (v := 30) hx hb d_Ns_init_35 (by decide) ?_
  have f_sl0 := f_sl
  have f_or0 := f_or
  refine lv_icmp_ge (tgt := 71) hx hb d_Ns_init_37 (by decide) (fun hc33 => ?_) (fun hc33 => ?_)
  · skip
    have hin : i = 30 := by
      have h8 := (nI_leI (a := 30) (by omega) (by omega)).mp hc33
      omega
    refine W.widen (k := 32) (n := 390) (by omega) (by omega) ?_
    exact W.vret hx hb hr (fun t9 ht hW => ⟨hh, rfl, ⟨hkp, q2, q13, f, g, f_h0, f_sl, f_or, fun j hj => hnod j (by omega), fun j k hj hk9 => hinj j k (by omega) (by omega), ne_q2_q13⟩, by rw [ht]; exact hH, by rw [ht]; exact hz⟩) hLo d_Ns_init_71
  · skip
    have hin : i < 30 := by
      have h8 := mt (nI_leI (a := 30) (by omega) (by omega)).mpr hc33
      omega
    refine lv_aload_n hx hb d_Ns_init_40 rfl (lv_at hl 1 rfl) ?_
    refine hm_get (ci := 2) (v := .ref q2) (C := R_Ns) (T := F_Ns) (N := 4) hx hb hts ig_Ns hown hK hH f_h0 rfl 0 (by decide) (hts _ mw_35) (fun _ h9 => h9) rfl d_Ns_init_41 ?_
    refine lv_iload_n hx hb d_Ns_init_44 rfl (lv_at hl 0 rfl) ?_
    refine hm_new (ci := 1) (fs := [.int 0, .null, .int 0, .long 0, .int 0, .int 0, .int 0, .int 0, .int 0, .int 0, .int 0]) (C := R_No) (T := F_No) (N := 11) hx hb hts ig_No t_No tk_No hown (hts _ mw_34) (hts _ mw_39) (hts _ mw_40) hK hH rfl df_No (by show 2 + i + 1 ≤ 32; omega) (by show 60 + 11 * i + 11 ≤ 390; omega) d_Ns_init_45 (fun q35 H34 hq36 hn37 hH z38 => ?_)
    have hz : s.heap.size ≤ H34.size := by rw [z38]; exact Nat.le_succ_of_le hz
    obtain ⟨h39, e40⟩ : ∃ z, z = hu hh q35 (.inr (1, [.int 0, .null, .int 0, .long 0, .int 0, .int 0, .int 0, .int 0, .int 0, .int 0, .int 0])) := ⟨_, rfl⟩
    have hH : hm D vwCl G h39 H34 := by rw [e40]; exact hH
    have nb_h_q35 : h q35 = none := kp_none hkp hn37 (nmc (Ne.symm (h_nf hn37 f_h0)) nm0)
    have nb_hh_q35 : hh q35 = none := kp_none hkl hn37 (nmc (Ne.symm (h_nf hn37 f_sl)) (nmc (Ne.symm (h_nf hn37 f_or)) nm0))
    have hkp : kp [h0] h h39 := by rw [e40]; exact kp_new hkp hn37
    have hkl : kp [q2, q13] hh h39 := by rw [e40]; exact kp_new hkl hn37
    have ne_h0_q35 : h0 ≠ q35 := h_nf hn37 f_h0
    have f_h0 : h39 h0 = some (.inr (2, [.ref q2, .ref q13, .int 1, .int 1])) := by rw [e40, hu_n ne_h0_q35]; exact f_h0
    have ne_q2_q35 : q2 ≠ q35 := h_nf hn37 f_sl
    have f_sl : h39 q2 = some (.inl ((t 4), 30, .inr (.inr (.inr (.inr f))))) := by rw [e40, hu_n ne_q2_q35]; exact f_sl
    have ne_q13_q35 : q13 ≠ q35 := h_nf hn37 f_or
    have f_or : h39 q13 = some (.inl ((t 4), 30, .inr (.inr (.inr (.inr g))))) := by rw [e40, hu_n ne_q13_q35]; exact f_or
    have f_q : h39 q35 = some (.inr (1, [.int 0, .null, .int 0, .long 0, .int 0, .int 0, .int 0, .int 0, .int 0, .int 0, .int 0])) := by rw [e40]; exact hu_s _ _ _
    refine lv_dup hx hb d_Ns_init_48 rfl ?_
    refine hm_callv (va_runIN (As := []) (b := q35) (rest := [.ref q35, .int (nI i), .ref q2]) ⟨hx, hb, hml, hown, hts⟩ (c_Node_init l D t G ak av h39 q35 f_q) ⟨cw9N 0 hts mw_41 (nmU hE nM_4) mw_40 rfl rfl (by decide +kernel) ⟨Nat.le_of_ble_eq_true rfl, Nat.le_of_ble_eq_true rfl⟩, rfl, hts _ mw_42⟩ (hP_S kE_ok hE hH) rfl rfl hl.1 rfl (lv_room (Nat.le_of_ble_eq_true rfl)) d_Ns_init_49 ⟨by show 2 + i + 1 + 0 ≤ 32; omega, by show 60 + 11 * i + 11 + 0 ≤ 390; omega⟩) hLo (fun h41 H42 locs hp44 hH z43 hLo => ?_)
    have hz : s.heap.size ≤ H42.size := Nat.le_trans hz z43
    obtain ⟨hk9, hq9⟩ := hp44
    have f_h0 : h41 h0 = some (.inr (2, [.ref q2, .ref q13, .int 1, .int 1])) := kp_at hk9 f_h0 (nmc ne_h0_q35 nm0)
    have f_sl : h41 q2 = some (.inl ((t 4), 30, .inr (.inr (.inr (.inr f))))) := kp_at hk9 f_sl (nmc ne_q2_q35 nm0)
    have f_or : h41 q13 = some (.inl ((t 4), 30, .inr (.inr (.inr (.inr g))))) := kp_at hk9 f_or (nmc ne_q13_q35 nm0)
    have hkp : kp [h0] h h41 := kp_tr2 hkp hk9 (List.forall_mem_cons.mpr ⟨Or.inr nb_h_q35, List.forall_mem_nil _⟩)
    have hkl : kp [q2, q13] hh h41 := kp_tr2 hkl hk9 (List.forall_mem_cons.mpr ⟨Or.inr nb_hh_q35, List.forall_mem_nil _⟩)
    have f_q : h41 q35 = some (.inr (1, [.int 0, .null, .int 1, .long 0, .int 0, .int 0, .int 0, .int 0, .int 0, .int 0, .int 1])) := hq9
    refine hj_aast hx hb hK hH hLo 4 1 f_sl rfl f_q rfl i rfl hin (by decide) d_Ns_init_52 (fun H45 locs hH z46 hLo => ?_)
    have hz : s.heap.size ≤ H45.size := by rw [z46]; exact hz
    obtain ⟨h47, e48⟩ : ∃ z, z = hu h41 q2 (.inl ((t 4), 30, .inr (.inr (.inr (.inr (va_up f i (some q35))))))) := ⟨_, rfl⟩
    have hH : hm D vwCl G h47 H45 := by rw [e48]; exact hH
    have f_h0 : h47 h0 = some (.inr (2, [.ref q2, .ref q13, .int 1, .int 1])) := by rw [e48, hu_n ne_h0_q2]; exact f_h0
    have f_or : h47 q13 = some (.inl ((t 4), 30, .inr (.inr (.inr (.inr g))))) := by rw [e48, hu_n (Ne.symm ne_q2_q13)]; exact f_or
    have f_q : h47 q35 = some (.inr (1, [.int 0, .null, .int 1, .long 0, .int 0, .int 0, .int 0, .int 0, .int 0, .int 0, .int 1])) := by rw [e48, hu_n (Ne.symm ne_q2_q35)]; exact f_q
    have f_sl : h47 q2 = some (.inl ((t 4), 30, .inr (.inr (.inr (.inr (va_up f i (some q35))))))) := by rw [e48]; exact hu_s _ _ _
    have hkp : kp [h0] h h47 := by rw [e48]; exact kp_putN hkp nb_h_q2
    have hkl : kp [q2, q13] hh h47 := by rw [e48]; exact kp_put hkl (by simp)
    refine lv_aload_n hx hb d_Ns_init_53 rfl (lv_at hl 1 rfl) ?_
    refine hm_get (ci := 2) (v := .ref q13) (C := R_Ns) (T := F_Ns) (N := 4) hx hb hts ig_Ns hown hK hH f_h0 rfl 1 (by decide) (hts _ mw_36) (fun _ h9 => h9) rfl d_Ns_init_54 ?_
    refine lv_iload_n hx hb d_Ns_init_57 rfl (lv_at hl 0 rfl) ?_
    refine lv_aload_n hx hb d_Ns_init_58 rfl (lv_at hl 1 rfl) ?_
    refine hm_get (ci := 2) (v := .ref q2) (C := R_Ns) (T := F_Ns) (N := 4) hx hb hts ig_Ns hown hK hH f_h0 rfl 0 (by decide) (hts _ mw_35) (fun _ h9 => h9) rfl d_Ns_init_59 ?_
    refine lv_iload_n hx hb d_Ns_init_62 rfl (lv_at hl 0 rfl) ?_
    refine hj_aald (v := .ref q35) hx hb hK hH 4 f_sl (C := R_No) rfl i rfl hin (by decide) (by rw [va_up_self]; rfl) d_Ns_init_63 ?_
    refine hj_aast hx hb hK hH hLo 4 1 f_or rfl f_q rfl i rfl hin (by decide) d_Ns_init_64 (fun H49 locs hH z50 hLo => ?_)
    have hz : s.heap.size ≤ H49.size := by rw [z50]; exact hz
    obtain ⟨h51, e52⟩ : ∃ z, z = hu h47 q13 (.inl ((t 4), 30, .inr (.inr (.inr (.inr (va_up g i (some q35))))))) := ⟨_, rfl⟩
    have hH : hm D vwCl G h51 H49 := by rw [e52]; exact hH
    have f_h0 : h51 h0 = some (.inr (2, [.ref q2, .ref q13, .int 1, .int 1])) := by rw [e52, hu_n ne_h0_q13]; exact f_h0
    have f_sl : h51 q2 = some (.inl ((t 4), 30, .inr (.inr (.inr (.inr (va_up f i (some q35))))))) := by rw [e52, hu_n ne_q2_q13]; exact f_sl
    have f_q : h51 q35 = some (.inr (1, [.int 0, .null, .int 1, .long 0, .int 0, .int 0, .int 0, .int 0, .int 0, .int 0, .int 1])) := by rw [e52, hu_n (Ne.symm ne_q13_q35)]; exact f_q
    have f_or : h51 q13 = some (.inl ((t 4), 30, .inr (.inr (.inr (.inr (va_up g i (some q35))))))) := by rw [e52]; exact hu_s _ _ _
    have hkp : kp [h0] h h51 := by rw [e52]; exact kp_putN hkp nb_h_q13
    have hkl : kp [q2, q13] hh h51 := by rw [e52]; exact kp_put hkl (by simp)
    have hnod2 : ∀ j, j < i + 1 → ∃ a, (va_up f i (some q35)) j = some a ∧ (va_up g i (some q35)) j = some a ∧ h51 a = some (.inr (1, [.int 0, .null, .int 1, .long 0, .int 0, .int 0, .int 0, .int 0, .int 0, .int 0, .int 1])) := by
      intro j hj
      by_cases hji : j = i
      · subst hji
        exact ⟨q35, va_up_self _ _ _, va_up_self _ _ _, f_q⟩
      · obtain ⟨a, h1, h2, h3⟩ := hnod j (by omega)
        exact ⟨a, by rw [va_up_ne _ _ hji]; exact h1, by rw [va_up_ne _ _ hji]; exact h2, kp_at hkl h3 (nmc (Ne.symm (h_neA f_sl0 h3)) (nmc (Ne.symm (h_neA f_or0 h3)) nm0))⟩
    have hinj2 : ∀ j k, j < i + 1 → k < i + 1 → (va_up f i (some q35)) j = (va_up f i (some q35)) k → j = k := by
      intro j k hj hk2 e9
      by_cases hji : j = i <;> by_cases hki : k = i
      · omega
      · rw [hji, va_up_self, va_up_ne _ _ hki] at e9
        obtain ⟨a, h1, -, h3⟩ := hnod k (by omega)
        rw [h1] at e9
        exact absurd (Option.some.inj e9).symm (fun z => by rw [z, nb_hh_q35] at h3; cases h3)
      · rw [hki, va_up_self, va_up_ne _ _ hji] at e9
        obtain ⟨a, h1, -, h3⟩ := hnod j (by omega)
        rw [h1] at e9
        exact absurd (Option.some.inj e9) (fun z => by rw [z, nb_hh_q35] at h3; cases h3)
      · rw [va_up_ne _ _ hji, va_up_ne _ _ hki] at e9
        exact hinj j k (by omega) (by omega) e9
    refine lv_iinc (v := nI (i + 1)) (lv' := [(1, .int (nI (i + 1))), (0, .ref h0)]) hx hb d_Ns_init_65 hl (k := 0) rfl (nI_1 i) (by decide) rfl (fun ls hl => ?_)
    refine lv_goto (tgt := 34) hx hb d_Ns_init_68 (by decide) ?_
    exact ih (30 - (i + 1)) ls _ locs _ _ _ (by rw [hk]; omega) ⟨(i + 1), _, _, rfl, (by omega), (by omega), (lv_sub hl [0, 1] rfl), hH, hz, hLo, hkp, f_h0, f_sl, f_or, hnod2, hinj2, by omega⟩

set_option maxHeartbeats 4000000 in
set_option maxRecDepth 100000 in
theorem c_Writer_init (l : Launch) (D : va_G) (t : Nat → ClassId) (G : Heap) (ak av : Nat → Nat) (h : hM) (h0 : Nat) (f_h0 : h h0 = some (.inr (7, [.null, .null]))) : Met l y_Wr_init (.code y_Wr_init b_Wr_init 1 none :: lw_g) { frames := 2, cells := 3, slots := 2052, locals := 33 } (hP (kE D t G ak av) D vwCl G h [.ref h0]) (hQv D vwCl G (fun h' => kp [h0] h h' ∧ ∃ su pg pb, h' h0 = some (.inr (7, [.ref su, .ref pg])) ∧ h' su = some (.inr (4, [.int (-1), .int 0, .int 0])) ∧ h' pg = some (.inr (3, [.ref pb])) ∧ h' pb = some (.inl (t 0, 2048, .inl (fun _ => 0))))) 3 2052 (fun q => G.size ≤ q) := by
  refine Met.ofW (cc := b_Wr_init) (maxL := 1) (ret := none) (by decide) rfl ?_
  intro p e s m args below meth c s₁ Bd hml hv
  obtain ⟨ha, hE, hH⟩ := hv
  have hx := Bd.exec
  have hb := Bd.bytes
  have hr := Bd.returns
  have hts : ∀ w ∈ lw_g, w.before args s = true := fun w hw => atoms_spec (ws := (.code y_Wr_init b_Wr_init 1 none :: lw_g)) Bd.pre w (List.mem_cons_of_mem _ hw)
  have hown : s.vm.findClass R_Wr = some m.cls := findClass_of_methodNamed Bd.named
  have hlocks := Bd.notSynchronized
  have hin : meth.name = "<init>" := (name_of_methodNamed Bd.named Bd.method).1
  have hK := hE.1
  have hH0 := hH
  have hLo : hLc G.size [] := hLc_nil
  have hz : s.heap.size ≤ s.heap.size := Nat.le_refl _
  have hkp : kp [h0] h h := kp_rf
  have hl := lv_entry [.ref h0] (n := 1) (Nat.le_of_ble_eq_true rfl)
  rw [show entryFrame m args 1 = F0 m 0 ((lg_sl [.ref h0] ++ List.replicate (1 - (lg_sl [.ref h0]).length) Slot.unset).toArray) [] from (by rw [ha]; exact lg_entry_eq m [.ref h0] 1)]
  generalize (lg_sl [.ref h0] ++ List.replicate (1 - (lg_sl [.ref h0]).length) Slot.unset).toArray = ls at hl ⊢
  have hl : lv_has ls 1 [(0, .ref h0)] := hl
  refine lv_aload_n hx hb d_Wr_init_0 rfl (lv_at hl 0 rfl) ?_
  refine W.objInit hx hb hown (hts _ mw_43) (hts _ mw_1) (hts _ mw_2) rfl (by rw [hml]; exact hl.1) rfl d_Wr_init_1 (Nat.le_of_ble_eq_true rfl) (Nat.le_of_ble_eq_true rfl) ?_
  refine W.eq (g2 := F0 m 4 ls []) rfl ?_
  refine lv_aload_n hx hb d_Wr_init_4 rfl (lv_at hl 0 rfl) ?_
  refine hm_new (ci := 4) (fs := [.int 0, .int 0, .int 0]) (C := R_Po) (T := F_Po) (N := 3) hx hb hts ig_Po t_Po tk_Po hown (hts _ mw_44) (hts _ mw_45) (hts _ mw_46) hK hH rfl df_Po (Nat.le_of_ble_eq_true rfl) (Nat.le_of_ble_eq_true rfl) d_Wr_init_5 (fun q2 H1 hq3 hn4 hH z5 => ?_)
  have hz : s.heap.size ≤ H1.size := by rw [z5]; exact Nat.le_succ_of_le hz
  obtain ⟨h6, e7⟩ : ∃ z, z = hu h q2 (.inr (4, [.int 0, .int 0, .int 0])) := ⟨_, rfl⟩
  have hH : hm D vwCl G h6 H1 := by rw [e7]; exact hH
  have nb_h_q2 : h q2 = none := kp_none hkp hn4 (nmc (Ne.symm (h_nf hn4 f_h0)) nm0)
  have hkp : kp [h0] h h6 := by rw [e7]; exact kp_new hkp hn4
  have ne_h0_q2 : h0 ≠ q2 := h_nf hn4 f_h0
  have f_h0 : h6 h0 = some (.inr (7, [.null, .null])) := by rw [e7, hu_n ne_h0_q2]; exact f_h0
  have f_su : h6 q2 = some (.inr (4, [.int 0, .int 0, .int 0])) := by rw [e7]; exact hu_s _ _ _
  refine lv_dup hx hb d_Wr_init_8 rfl ?_
  refine hm_callv (va_runIN (As := []) (b := q2) (rest := [.ref q2, .ref h0]) ⟨hx, hb, hml, hown, hts⟩ (c_Power_init l D t G ak av h6 q2 f_su) ⟨cw9N 0 hts mw_47 (nmU hE nM_1) mw_46 rfl rfl (by decide +kernel) ⟨Nat.le_of_ble_eq_true rfl, Nat.le_of_ble_eq_true rfl⟩, rfl, hts _ mw_48⟩ (hP_S kE_ok hE hH) rfl rfl hl.1 rfl (lv_room (Nat.le_of_ble_eq_true rfl)) d_Wr_init_9 ⟨Nat.le_of_ble_eq_true rfl, Nat.le_of_ble_eq_true rfl⟩) hLo (fun h8 H9 locs hp11 hH z10 hLo => ?_)
  have hz : s.heap.size ≤ H9.size := Nat.le_trans hz z10
  obtain ⟨hk9, hq9⟩ := hp11
  have f_h0 : h8 h0 = some (.inr (7, [.null, .null])) := kp_at hk9 f_h0 (nmc ne_h0_q2 nm0)
  have hkp : kp [h0] h h8 := kp_tr2 hkp hk9 (List.forall_mem_cons.mpr ⟨Or.inr nb_h_q2, List.forall_mem_nil _⟩)
  have f_su : h8 q2 = some (.inr (4, [.int (-1), .int 0, .int 0])) := hq9
  refine hm_putF (ci := 7) (v := .ref q2) (ty := (.object "WriteOnceDisc$Power")) (C := R_Wr) (T := F_Wr) (N := 2) hx hb hts ig_Wr t_Wr tk_Wr nm_Wr hown hK hH hLo f_h0 rfl 0 (by decide) (hts _ mw_49) (fun _ h9 => h9) rfl hin rfl (by decide +kernel) rfl rfl (Nat.le_of_ble_eq_true rfl) d_Wr_init_12 (fun H12 locs hH z13 hLo => ?_)
  have hz : s.heap.size ≤ H12.size := by rw [z13]; exact hz
  obtain ⟨h14, e15⟩ : ∃ z, z = hu h8 h0 (.inr (7, [.ref q2, .null])) := ⟨_, rfl⟩
  have hH : hm D vwCl G h14 H12 := by rw [e15]; exact hH
  have f_su : h14 q2 = some (.inr (4, [.int (-1), .int 0, .int 0])) := by rw [e15, hu_n (Ne.symm ne_h0_q2)]; exact f_su
  have f_h0 : h14 h0 = some (.inr (7, [.ref q2, .null])) := by rw [e15]; exact hu_s _ _ _
  have hkp : kp [h0] h h14 := by rw [e15]; exact kp_put hkp (by simp)
  refine lv_aload_n hx hb d_Wr_init_15 rfl (lv_at hl 0 rfl) ?_
  refine hm_new (ci := 3) (fs := [.null]) (C := R_Pg) (T := F_Pg) (N := 1) hx hb hts ig_Pg t_Pg tk_Pg hown (hts _ mw_50) (hts _ mw_51) (hts _ mw_52) hK hH rfl df_Pg (Nat.le_of_ble_eq_true rfl) (Nat.le_of_ble_eq_true rfl) d_Wr_init_16 (fun q17 H16 hq18 hn19 hH z20 => ?_)
  have hz : s.heap.size ≤ H16.size := by rw [z20]; exact Nat.le_succ_of_le hz
  obtain ⟨h21, e22⟩ : ∃ z, z = hu h14 q17 (.inr (3, [.null])) := ⟨_, rfl⟩
  have hH : hm D vwCl G h21 H16 := by rw [e22]; exact hH
  have nb_h_q17 : h q17 = none := kp_none hkp hn19 (nmc (Ne.symm (h_nf hn19 f_h0)) nm0)
  have hkp : kp [h0] h h21 := by rw [e22]; exact kp_new hkp hn19
  have ne_h0_q17 : h0 ≠ q17 := h_nf hn19 f_h0
  have f_h0 : h21 h0 = some (.inr (7, [.ref q2, .null])) := by rw [e22, hu_n ne_h0_q17]; exact f_h0
  have ne_q2_q17 : q2 ≠ q17 := h_nf hn19 f_su
  have f_su : h21 q2 = some (.inr (4, [.int (-1), .int 0, .int 0])) := by rw [e22, hu_n ne_q2_q17]; exact f_su
  have f_pg : h21 q17 = some (.inr (3, [.null])) := by rw [e22]; exact hu_s _ _ _
  refine lv_dup hx hb d_Wr_init_19 rfl ?_
  refine lv_sipush (v := 2048) hx hb d_Wr_init_20 (by decide) ?_
  refine hm_callv (va_runI (As := [.int 2048]) (b := q17) (rest := [.ref q17, .ref h0]) ⟨hx, hb, hml, hown, hts⟩ (c_Page_init_2048 l D t G ak av h21 q17 f_pg) ⟨cw9B 1 hts mw_53 mw_54 mw_52 rfl rfl (by decide +kernel) ⟨Nat.le_of_ble_eq_true rfl, Nat.le_of_ble_eq_true rfl⟩, rfl, hts _ mw_55⟩ (hP_S kE_ok hE hH) rfl rfl hl.1 rfl (lv_room (Nat.le_of_ble_eq_true rfl)) d_Wr_init_23 ⟨Nat.le_of_ble_eq_true rfl, Nat.le_of_ble_eq_true rfl⟩) hLo (fun h23 H24 locs hp26 hH z25 hLo => ?_)
  have hz : s.heap.size ≤ H24.size := Nat.le_trans hz z25
  obtain ⟨hk9, pb, hq9, hp9⟩ := hp26
  have f_h0 : h23 h0 = some (.inr (7, [.ref q2, .null])) := kp_at hk9 f_h0 (nmc ne_h0_q17 nm0)
  have f_su : h23 q2 = some (.inr (4, [.int (-1), .int 0, .int 0])) := kp_at hk9 f_su (nmc ne_q2_q17 nm0)
  have hkp : kp [h0] h h23 := kp_tr2 hkp hk9 (List.forall_mem_cons.mpr ⟨Or.inr nb_h_q17, List.forall_mem_nil _⟩)
  have f_pg : h23 q17 = some (.inr (3, [.ref pb])) := hq9
  have f_pb : h23 pb = some (.inl ((t 0), 2048, .inl (fun _ => 0))) := hp9
  refine hm_putF (ci := 7) (v := .ref q17) (ty := (.object "WriteOnceDisc$Page")) (C := R_Wr) (T := F_Wr) (N := 2) hx hb hts ig_Wr t_Wr tk_Wr nm_Wr hown hK hH hLo f_h0 rfl 1 (by decide) (hts _ mw_56) (fun _ h9 => h9) rfl hin rfl (by decide +kernel) rfl rfl (Nat.le_of_ble_eq_true rfl) d_Wr_init_26 (fun H27 locs hH z28 hLo => ?_)
  have hz : s.heap.size ≤ H27.size := by rw [z28]; exact hz
  obtain ⟨h29, e30⟩ : ∃ z, z = hu h23 h0 (.inr (7, [.ref q2, .ref q17])) := ⟨_, rfl⟩
  have hH : hm D vwCl G h29 H27 := by rw [e30]; exact hH
  have f_su : h29 q2 = some (.inr (4, [.int (-1), .int 0, .int 0])) := by rw [e30, hu_n (Ne.symm ne_h0_q2)]; exact f_su
  have f_pg : h29 q17 = some (.inr (3, [.ref pb])) := by rw [e30, hu_n (Ne.symm ne_h0_q17)]; exact f_pg
  have f_pb : h29 pb = some (.inl ((t 0), 2048, .inl (fun _ => 0))) := by rw [e30, hu_n (h_neA f_pb f_h0)]; exact f_pb
  have f_h0 : h29 h0 = some (.inr (7, [.ref q2, .ref q17])) := by rw [e30]; exact hu_s _ _ _
  have hkp : kp [h0] h h29 := by rw [e30]; exact kp_put hkp (by simp)
  exact W.vret hx hb hr (fun t9 ht hW => ⟨h29, rfl, ⟨hkp, q2, q17, pb, f_h0, f_su, f_pg, f_pb⟩, by rw [ht]; exact hH, by rw [ht]; exact hz⟩) hLo d_Wr_init_29

set_option maxHeartbeats 4000000 in
set_option maxRecDepth 100000 in
theorem c_Reader_init (l : Launch) (D : va_G) (t : Nat → ClassId) (G : Heap) (ak av : Nat → Nat) (h : hM) (h0 : Nat) (f_h0 : h h0 = some (.inr (5, [.null, .null, .null, .null, .int 0]))) : Met l y_Re_init (.code y_Re_init b_Re_init 1 none :: lw_g) { frames := 2, cells := 3, slots := 492, locals := 33 } (hP (kE D t G ak av) D vwCl G h [.ref h0]) (hQv D vwCl G (fun h' => kp [h0] h h' ∧ ∃ pg no pb, h' h0 = some (.inr (5, [.ref pg, .ref no, .null, .null, .int 0])) ∧ h' no = some (.inr (1, [.int 0, .null, .int 1, .long 0, .int 0, .int 0, .int 0, .int 0, .int 0, .int 0, .int 1])) ∧ h' pg = some (.inr (3, [.ref pb])) ∧ h' pb = some (.inl (t 0, 480, .inl (fun _ => 0))))) 3 492 (fun q => G.size ≤ q) := by
  refine Met.ofW (cc := b_Re_init) (maxL := 1) (ret := none) (by decide) rfl ?_
  intro p e s m args below meth c s₁ Bd hml hv
  obtain ⟨ha, hE, hH⟩ := hv
  have hx := Bd.exec
  have hb := Bd.bytes
  have hr := Bd.returns
  have hts : ∀ w ∈ lw_g, w.before args s = true := fun w hw => atoms_spec (ws := (.code y_Re_init b_Re_init 1 none :: lw_g)) Bd.pre w (List.mem_cons_of_mem _ hw)
  have hown : s.vm.findClass R_Re = some m.cls := findClass_of_methodNamed Bd.named
  have hlocks := Bd.notSynchronized
  have hin : meth.name = "<init>" := (name_of_methodNamed Bd.named Bd.method).1
  have hK := hE.1
  have hH0 := hH
  have hLo : hLc G.size [] := hLc_nil
  have hz : s.heap.size ≤ s.heap.size := Nat.le_refl _
  have hkp : kp [h0] h h := kp_rf
  have hl := lv_entry [.ref h0] (n := 1) (Nat.le_of_ble_eq_true rfl)
  rw [show entryFrame m args 1 = F0 m 0 ((lg_sl [.ref h0] ++ List.replicate (1 - (lg_sl [.ref h0]).length) Slot.unset).toArray) [] from (by rw [ha]; exact lg_entry_eq m [.ref h0] 1)]
  generalize (lg_sl [.ref h0] ++ List.replicate (1 - (lg_sl [.ref h0]).length) Slot.unset).toArray = ls at hl ⊢
  have hl : lv_has ls 1 [(0, .ref h0)] := hl
  refine lv_aload_n hx hb d_Re_init_0 rfl (lv_at hl 0 rfl) ?_
  refine W.objInit hx hb hown (hts _ mw_57) (hts _ mw_1) (hts _ mw_2) rfl (by rw [hml]; exact hl.1) rfl d_Re_init_1 (Nat.le_of_ble_eq_true rfl) (Nat.le_of_ble_eq_true rfl) ?_
  refine W.eq (g2 := F0 m 4 ls []) rfl ?_
  refine lv_aload_n hx hb d_Re_init_4 rfl (lv_at hl 0 rfl) ?_
  refine hm_new (ci := 3) (fs := [.null]) (C := R_Pg) (T := F_Pg) (N := 1) hx hb hts ig_Pg t_Pg tk_Pg hown (hts _ mw_58) (hts _ mw_51) (hts _ mw_52) hK hH rfl df_Pg (Nat.le_of_ble_eq_true rfl) (Nat.le_of_ble_eq_true rfl) d_Re_init_5 (fun q2 H1 hq3 hn4 hH z5 => ?_)
  have hz : s.heap.size ≤ H1.size := by rw [z5]; exact Nat.le_succ_of_le hz
  obtain ⟨h6, e7⟩ : ∃ z, z = hu h q2 (.inr (3, [.null])) := ⟨_, rfl⟩
  have hH : hm D vwCl G h6 H1 := by rw [e7]; exact hH
  have nb_h_q2 : h q2 = none := kp_none hkp hn4 (nmc (Ne.symm (h_nf hn4 f_h0)) nm0)
  have hkp : kp [h0] h h6 := by rw [e7]; exact kp_new hkp hn4
  have ne_h0_q2 : h0 ≠ q2 := h_nf hn4 f_h0
  have f_h0 : h6 h0 = some (.inr (5, [.null, .null, .null, .null, .int 0])) := by rw [e7, hu_n ne_h0_q2]; exact f_h0
  have f_pg : h6 q2 = some (.inr (3, [.null])) := by rw [e7]; exact hu_s _ _ _
  refine lv_dup hx hb d_Re_init_8 rfl ?_
  refine lv_sipush (v := 480) hx hb d_Re_init_9 (by decide) ?_
  refine hm_callv (va_runI (As := [.int 480]) (b := q2) (rest := [.ref q2, .ref h0]) ⟨hx, hb, hml, hown, hts⟩ (c_Page_init_480 l D t G ak av h6 q2 f_pg) ⟨cw9B 1 hts mw_53 mw_59 mw_52 rfl rfl (by decide +kernel) ⟨Nat.le_of_ble_eq_true rfl, Nat.le_of_ble_eq_true rfl⟩, rfl, hts _ mw_55⟩ (hP_S kE_ok hE hH) rfl rfl hl.1 rfl (lv_room (Nat.le_of_ble_eq_true rfl)) d_Re_init_12 ⟨Nat.le_of_ble_eq_true rfl, Nat.le_of_ble_eq_true rfl⟩) hLo (fun h8 H9 locs hp11 hH z10 hLo => ?_)
  have hz : s.heap.size ≤ H9.size := Nat.le_trans hz z10
  obtain ⟨hk9, pb, hq9, hp9⟩ := hp11
  have f_h0 : h8 h0 = some (.inr (5, [.null, .null, .null, .null, .int 0])) := kp_at hk9 f_h0 (nmc ne_h0_q2 nm0)
  have hkp : kp [h0] h h8 := kp_tr2 hkp hk9 (List.forall_mem_cons.mpr ⟨Or.inr nb_h_q2, List.forall_mem_nil _⟩)
  have f_pg : h8 q2 = some (.inr (3, [.ref pb])) := hq9
  have f_pb : h8 pb = some (.inl ((t 0), 480, .inl (fun _ => 0))) := hp9
  refine hm_putF (ci := 5) (v := .ref q2) (ty := (.object "WriteOnceDisc$Page")) (C := R_Re) (T := F_Re) (N := 5) hx hb hts ig_Re t_Re tk_Re nm_Re hown hK hH hLo f_h0 rfl 0 (by decide) (hts _ mw_60) (fun _ h9 => h9) rfl hin rfl (by decide +kernel) rfl rfl (Nat.le_of_ble_eq_true rfl) d_Re_init_15 (fun H12 locs hH z13 hLo => ?_)
  have hz : s.heap.size ≤ H12.size := by rw [z13]; exact hz
  obtain ⟨h14, e15⟩ : ∃ z, z = hu h8 h0 (.inr (5, [.ref q2, .null, .null, .null, .int 0])) := ⟨_, rfl⟩
  have hH : hm D vwCl G h14 H12 := by rw [e15]; exact hH
  have f_pg : h14 q2 = some (.inr (3, [.ref pb])) := by rw [e15, hu_n (Ne.symm ne_h0_q2)]; exact f_pg
  have f_pb : h14 pb = some (.inl ((t 0), 480, .inl (fun _ => 0))) := by rw [e15, hu_n (h_neA f_pb f_h0)]; exact f_pb
  have f_h0 : h14 h0 = some (.inr (5, [.ref q2, .null, .null, .null, .int 0])) := by rw [e15]; exact hu_s _ _ _
  have hkp : kp [h0] h h14 := by rw [e15]; exact kp_put hkp (by simp)
  refine lv_aload_n hx hb d_Re_init_18 rfl (lv_at hl 0 rfl) ?_
  refine hm_new (ci := 1) (fs := [.int 0, .null, .int 0, .long 0, .int 0, .int 0, .int 0, .int 0, .int 0, .int 0, .int 0]) (C := R_No) (T := F_No) (N := 11) hx hb hts ig_No t_No tk_No hown (hts _ mw_61) (hts _ mw_39) (hts _ mw_40) hK hH rfl df_No (Nat.le_of_ble_eq_true rfl) (Nat.le_of_ble_eq_true rfl) d_Re_init_19 (fun q17 H16 hq18 hn19 hH z20 => ?_)
  have hz : s.heap.size ≤ H16.size := by rw [z20]; exact Nat.le_succ_of_le hz
  obtain ⟨h21, e22⟩ : ∃ z, z = hu h14 q17 (.inr (1, [.int 0, .null, .int 0, .long 0, .int 0, .int 0, .int 0, .int 0, .int 0, .int 0, .int 0])) := ⟨_, rfl⟩
  have hH : hm D vwCl G h21 H16 := by rw [e22]; exact hH
  have nb_h_q17 : h q17 = none := kp_none hkp hn19 (nmc (Ne.symm (h_nf hn19 f_h0)) nm0)
  have hkp : kp [h0] h h21 := by rw [e22]; exact kp_new hkp hn19
  have ne_h0_q17 : h0 ≠ q17 := h_nf hn19 f_h0
  have f_h0 : h21 h0 = some (.inr (5, [.ref q2, .null, .null, .null, .int 0])) := by rw [e22, hu_n ne_h0_q17]; exact f_h0
  have ne_q2_q17 : q2 ≠ q17 := h_nf hn19 f_pg
  have f_pg : h21 q2 = some (.inr (3, [.ref pb])) := by rw [e22, hu_n ne_q2_q17]; exact f_pg
  have ne_pb_q17 : pb ≠ q17 := h_nf hn19 f_pb
  have f_pb : h21 pb = some (.inl ((t 0), 480, .inl (fun _ => 0))) := by rw [e22, hu_n ne_pb_q17]; exact f_pb
  have f_no : h21 q17 = some (.inr (1, [.int 0, .null, .int 0, .long 0, .int 0, .int 0, .int 0, .int 0, .int 0, .int 0, .int 0])) := by rw [e22]; exact hu_s _ _ _
  refine lv_dup hx hb d_Re_init_22 rfl ?_
  refine hm_callv (va_runIN (As := []) (b := q17) (rest := [.ref q17, .ref h0]) ⟨hx, hb, hml, hown, hts⟩ (c_Node_init l D t G ak av h21 q17 f_no) ⟨cw9N 0 hts mw_41 (nmU hE nM_3) mw_40 rfl rfl (by decide +kernel) ⟨Nat.le_of_ble_eq_true rfl, Nat.le_of_ble_eq_true rfl⟩, rfl, hts _ mw_42⟩ (hP_S kE_ok hE hH) rfl rfl hl.1 rfl (lv_room (Nat.le_of_ble_eq_true rfl)) d_Re_init_23 ⟨Nat.le_of_ble_eq_true rfl, Nat.le_of_ble_eq_true rfl⟩) hLo (fun h23 H24 locs hp26 hH z25 hLo => ?_)
  have hz : s.heap.size ≤ H24.size := Nat.le_trans hz z25
  obtain ⟨hk9, hq9⟩ := hp26
  have f_h0 : h23 h0 = some (.inr (5, [.ref q2, .null, .null, .null, .int 0])) := kp_at hk9 f_h0 (nmc ne_h0_q17 nm0)
  have f_pg : h23 q2 = some (.inr (3, [.ref pb])) := kp_at hk9 f_pg (nmc ne_q2_q17 nm0)
  have f_pb : h23 pb = some (.inl ((t 0), 480, .inl (fun _ => 0))) := kp_at hk9 f_pb (nmc ne_pb_q17 nm0)
  have hkp : kp [h0] h h23 := kp_tr2 hkp hk9 (List.forall_mem_cons.mpr ⟨Or.inr nb_h_q17, List.forall_mem_nil _⟩)
  have f_no : h23 q17 = some (.inr (1, [.int 0, .null, .int 1, .long 0, .int 0, .int 0, .int 0, .int 0, .int 0, .int 0, .int 1])) := hq9
  refine hm_putF (ci := 5) (v := .ref q17) (ty := (.object "WriteOnceDisc$Node")) (C := R_Re) (T := F_Re) (N := 5) hx hb hts ig_Re t_Re tk_Re nm_Re hown hK hH hLo f_h0 rfl 1 (by decide) (hts _ mw_62) (fun _ h9 => h9) rfl hin rfl (by decide +kernel) rfl rfl (Nat.le_of_ble_eq_true rfl) d_Re_init_26 (fun H27 locs hH z28 hLo => ?_)
  have hz : s.heap.size ≤ H27.size := by rw [z28]; exact hz
  obtain ⟨h29, e30⟩ : ∃ z, z = hu h23 h0 (.inr (5, [.ref q2, .ref q17, .null, .null, .int 0])) := ⟨_, rfl⟩
  have hH : hm D vwCl G h29 H27 := by rw [e30]; exact hH
  have f_pg : h29 q2 = some (.inr (3, [.ref pb])) := by rw [e30, hu_n (Ne.symm ne_h0_q2)]; exact f_pg
  have f_pb : h29 pb = some (.inl ((t 0), 480, .inl (fun _ => 0))) := by rw [e30, hu_n (h_neA f_pb f_h0)]; exact f_pb
  have f_no : h29 q17 = some (.inr (1, [.int 0, .null, .int 1, .long 0, .int 0, .int 0, .int 0, .int 0, .int 0, .int 0, .int 1])) := by rw [e30, hu_n (Ne.symm ne_h0_q17)]; exact f_no
  have f_h0 : h29 h0 = some (.inr (5, [.ref q2, .ref q17, .null, .null, .int 0])) := by rw [e30]; exact hu_s _ _ _
  have hkp : kp [h0] h h29 := by rw [e30]; exact kp_put hkp (by simp)
  refine lv_aload_n hx hb d_Re_init_29 rfl (lv_at hl 0 rfl) ?_
  refine lv_null hx hb d_Re_init_30 ?_
  refine hm_put (ci := 5) (v := .null) (ty := (.object "WriteOnceDisc$Medium")) (C := R_Re) (T := F_Re) (N := 5) hx hb hts ig_Re t_Re tk_Re nm_Re hown hK hH hLo f_h0 rfl 2 (by decide) (hts _ mw_63) (fun _ h9 => h9) rfl (by decide +kernel) rfl rfl (Nat.le_of_ble_eq_true rfl) d_Re_init_31 (fun H31 locs hH z32 hLo => ?_)
  have hz : s.heap.size ≤ H31.size := by rw [z32]; exact hz
  obtain ⟨h33, e34⟩ : ∃ z, z = hu h29 h0 (.inr (5, [.ref q2, .ref q17, .null, .null, .int 0])) := ⟨_, rfl⟩
  have hH : hm D vwCl G h33 H31 := by rw [e34]; exact hH
  have f_pg : h33 q2 = some (.inr (3, [.ref pb])) := by rw [e34, hu_n (Ne.symm ne_h0_q2)]; exact f_pg
  have f_pb : h33 pb = some (.inl ((t 0), 480, .inl (fun _ => 0))) := by rw [e34, hu_n (h_neA f_pb f_h0)]; exact f_pb
  have f_no : h33 q17 = some (.inr (1, [.int 0, .null, .int 1, .long 0, .int 0, .int 0, .int 0, .int 0, .int 0, .int 0, .int 1])) := by rw [e34, hu_n (Ne.symm ne_h0_q17)]; exact f_no
  have f_h0 : h33 h0 = some (.inr (5, [.ref q2, .ref q17, .null, .null, .int 0])) := by rw [e34]; exact hu_s _ _ _
  have hkp : kp [h0] h h33 := by rw [e34]; exact kp_put hkp (by simp)
  refine lv_aload_n hx hb d_Re_init_34 rfl (lv_at hl 0 rfl) ?_
  refine lv_null hx hb d_Re_init_35 ?_
  refine hm_put (ci := 5) (v := .null) (ty := (.object "WriteOnceDisc$Nodes")) (C := R_Re) (T := F_Re) (N := 5) hx hb hts ig_Re t_Re tk_Re nm_Re hown hK hH hLo f_h0 rfl 3 (by decide) (hts _ mw_64) (fun _ h9 => h9) rfl (by decide +kernel) rfl rfl (Nat.le_of_ble_eq_true rfl) d_Re_init_36 (fun H35 locs hH z36 hLo => ?_)
  have hz : s.heap.size ≤ H35.size := by rw [z36]; exact hz
  obtain ⟨h37, e38⟩ : ∃ z, z = hu h33 h0 (.inr (5, [.ref q2, .ref q17, .null, .null, .int 0])) := ⟨_, rfl⟩
  have hH : hm D vwCl G h37 H35 := by rw [e38]; exact hH
  have f_pg : h37 q2 = some (.inr (3, [.ref pb])) := by rw [e38, hu_n (Ne.symm ne_h0_q2)]; exact f_pg
  have f_pb : h37 pb = some (.inl ((t 0), 480, .inl (fun _ => 0))) := by rw [e38, hu_n (h_neA f_pb f_h0)]; exact f_pb
  have f_no : h37 q17 = some (.inr (1, [.int 0, .null, .int 1, .long 0, .int 0, .int 0, .int 0, .int 0, .int 0, .int 0, .int 1])) := by rw [e38, hu_n (Ne.symm ne_h0_q17)]; exact f_no
  have f_h0 : h37 h0 = some (.inr (5, [.ref q2, .ref q17, .null, .null, .int 0])) := by rw [e38]; exact hu_s _ _ _
  have hkp : kp [h0] h h37 := by rw [e38]; exact kp_put hkp (by simp)
  refine lv_aload_n hx hb d_Re_init_39 rfl (lv_at hl 0 rfl) ?_
  refine lv_iconst (v := 0) hx hb d_Re_init_40 (by decide) ?_
  refine hm_put (ci := 5) (v := .int 0) (ty := .int) (C := R_Re) (T := F_Re) (N := 5) hx hb hts ig_Re t_Re tk_Re nm_Re hown hK hH hLo f_h0 rfl 4 (by decide) (hts _ mw_65) (fun _ h9 => h9) rfl (by decide +kernel) rfl rfl (Nat.le_of_ble_eq_true rfl) d_Re_init_41 (fun H39 locs hH z40 hLo => ?_)
  have hz : s.heap.size ≤ H39.size := by rw [z40]; exact hz
  obtain ⟨h41, e42⟩ : ∃ z, z = hu h37 h0 (.inr (5, [.ref q2, .ref q17, .null, .null, .int 0])) := ⟨_, rfl⟩
  have hH : hm D vwCl G h41 H39 := by rw [e42]; exact hH
  have f_pg : h41 q2 = some (.inr (3, [.ref pb])) := by rw [e42, hu_n (Ne.symm ne_h0_q2)]; exact f_pg
  have f_pb : h41 pb = some (.inl ((t 0), 480, .inl (fun _ => 0))) := by rw [e42, hu_n (h_neA f_pb f_h0)]; exact f_pb
  have f_no : h41 q17 = some (.inr (1, [.int 0, .null, .int 1, .long 0, .int 0, .int 0, .int 0, .int 0, .int 0, .int 0, .int 1])) := by rw [e42, hu_n (Ne.symm ne_h0_q17)]; exact f_no
  have f_h0 : h41 h0 = some (.inr (5, [.ref q2, .ref q17, .null, .null, .int 0])) := by rw [e42]; exact hu_s _ _ _
  have hkp : kp [h0] h h41 := by rw [e42]; exact kp_put hkp (by simp)
  exact W.vret hx hb hr (fun t9 ht hW => ⟨h41, rfl, ⟨hkp, q2, q17, pb, f_h0, f_no, f_pg, f_pb⟩, by rw [ht]; exact hH, by rw [ht]; exact hz⟩) hLo d_Re_init_44
end
section
set_option maxRecDepth 100000 in
theorem mw_66 : Cond.code y_Pg_put b_Pg_put 3 none ∈ lw_g := lw_gin (List.mem_append_right _ (List.mem_of_getElem? (i := 428) rfl)) (by decide +kernel)
set_option maxRecDepth 100000 in
theorem mw_67 : Cond.methodLink R_Pg 31 y_Pg_put ∈ lw_g := lw_gin (List.mem_append_right _ (List.mem_of_getElem? (i := 425) rfl)) (by decide +kernel)
set_option maxRecDepth 100000 in
theorem mw_68 : Cond.instanceMethod y_Pg_put ∈ lw_g := lw_gin (List.mem_append_right _ (List.mem_of_getElem? (i := 426) rfl)) (by decide +kernel)
set_option maxRecDepth 100000 in
theorem mw_69 : Cond.selects R_Pg y_Pg_put y_Pg_put ∈ lw_g := lw_gin (List.mem_append_right _ (List.mem_of_getElem? (i := 427) rfl)) (by decide +kernel)
theorem d_Pg_put_0 : decode b_Pg_put 0 = .ok (.iload_n 1, 1) := by decide +kernel
theorem d_Pg_put_1 : decode b_Pg_put 1 = .ok (.ifCond .lt 20, 3) := by decide +kernel
theorem d_Pg_put_21 : decode b_Pg_put 21 = .ok (.return_, 1) := by decide +kernel
theorem d_Pg_put_4 : decode b_Pg_put 4 = .ok (.iload_n 1, 1) := by decide +kernel
theorem d_Pg_put_5 : decode b_Pg_put 5 = .ok (.aload_n 0, 1) := by decide +kernel
theorem d_Pg_put_6 : decode b_Pg_put 6 = .ok (.getfield 9, 3) := by decide +kernel
theorem d_Pg_put_9 : decode b_Pg_put 9 = .ok (.arraylength, 1) := by decide +kernel
theorem d_Pg_put_10 : decode b_Pg_put 10 = .ok (.if_icmp .ge 11, 3) := by decide +kernel
theorem d_Pg_put_13 : decode b_Pg_put 13 = .ok (.aload_n 0, 1) := by decide +kernel
theorem d_Pg_put_14 : decode b_Pg_put 14 = .ok (.getfield 9, 3) := by decide +kernel
theorem d_Pg_put_17 : decode b_Pg_put 17 = .ok (.iload_n 1, 1) := by decide +kernel
theorem d_Pg_put_18 : decode b_Pg_put 18 = .ok (.iload_n 2, 1) := by decide +kernel
theorem d_Pg_put_19 : decode b_Pg_put 19 = .ok (.i2b, 1) := by decide +kernel
theorem d_Pg_put_20 : decode b_Pg_put 20 = .ok (.bastore, 1) := by decide +kernel
theorem d_Pg_putLow_0 : decode b_Pg_putLow 0 = .ok (.iconst 0, 1) := by decide +kernel
theorem d_Pg_putLow_1 : decode b_Pg_putLow 1 = .ok (.istore 4, 2) := by decide +kernel
theorem d_Pg_putLow_3 : decode b_Pg_putLow 3 = .ok (.iload 4, 2) := by decide +kernel
theorem d_Pg_putLow_5 : decode b_Pg_putLow 5 = .ok (.iload_n 2, 1) := by decide +kernel
theorem d_Pg_putLow_6 : decode b_Pg_putLow 6 = .ok (.if_icmp .ge 24, 3) := by decide +kernel
theorem d_Pg_putLow_30 : decode b_Pg_putLow 30 = .ok (.return_, 1) := by decide +kernel
theorem d_Pg_putLow_9 : decode b_Pg_putLow 9 = .ok (.aload_n 0, 1) := by decide +kernel
theorem d_Pg_putLow_10 : decode b_Pg_putLow 10 = .ok (.iload_n 1, 1) := by decide +kernel
theorem d_Pg_putLow_11 : decode b_Pg_putLow 11 = .ok (.iload 4, 2) := by decide +kernel
theorem d_Pg_putLow_13 : decode b_Pg_putLow 13 = .ok (.iadd, 1) := by decide +kernel
theorem d_Pg_putLow_14 : decode b_Pg_putLow 14 = .ok (.iload_n 3, 1) := by decide +kernel
theorem d_Pg_putLow_15 : decode b_Pg_putLow 15 = .ok (.bipush 8, 2) := by decide +kernel
theorem d_Pg_putLow_17 : decode b_Pg_putLow 17 = .ok (.iload 4, 2) := by decide +kernel
theorem d_Pg_putLow_19 : decode b_Pg_putLow 19 = .ok (.imul, 1) := by decide +kernel
theorem d_Pg_putLow_20 : decode b_Pg_putLow 20 = .ok (.ishr, 1) := by decide +kernel
theorem d_Pg_putLow_21 : decode b_Pg_putLow 21 = .ok (.invokevirtual 31, 3) := by decide +kernel
theorem d_Pg_putLow_24 : decode b_Pg_putLow 24 = .ok (.iinc 4 1, 3) := by decide +kernel
theorem d_Pg_putLow_27 : decode b_Pg_putLow 27 = .ok (.goto (-24), 3) := by decide +kernel
theorem d_Pg_putHigh_0 : decode b_Pg_putHigh 0 = .ok (.iconst 0, 1) := by decide +kernel
theorem d_Pg_putHigh_1 : decode b_Pg_putHigh 1 = .ok (.istore 4, 2) := by decide +kernel
theorem d_Pg_putHigh_3 : decode b_Pg_putHigh 3 = .ok (.iload 4, 2) := by decide +kernel
theorem d_Pg_putHigh_5 : decode b_Pg_putHigh 5 = .ok (.iload_n 2, 1) := by decide +kernel
theorem d_Pg_putHigh_6 : decode b_Pg_putHigh 6 = .ok (.if_icmp .ge 28, 3) := by decide +kernel
theorem d_Pg_putHigh_34 : decode b_Pg_putHigh 34 = .ok (.return_, 1) := by decide +kernel
theorem d_Pg_putHigh_9 : decode b_Pg_putHigh 9 = .ok (.aload_n 0, 1) := by decide +kernel
theorem d_Pg_putHigh_10 : decode b_Pg_putHigh 10 = .ok (.iload_n 1, 1) := by decide +kernel
theorem d_Pg_putHigh_11 : decode b_Pg_putHigh 11 = .ok (.iload_n 2, 1) := by decide +kernel
theorem d_Pg_putHigh_12 : decode b_Pg_putHigh 12 = .ok (.iadd, 1) := by decide +kernel
theorem d_Pg_putHigh_13 : decode b_Pg_putHigh 13 = .ok (.iconst 1, 1) := by decide +kernel
theorem d_Pg_putHigh_14 : decode b_Pg_putHigh 14 = .ok (.isub, 1) := by decide +kernel
theorem d_Pg_putHigh_15 : decode b_Pg_putHigh 15 = .ok (.iload 4, 2) := by decide +kernel
theorem d_Pg_putHigh_17 : decode b_Pg_putHigh 17 = .ok (.isub, 1) := by decide +kernel
theorem d_Pg_putHigh_18 : decode b_Pg_putHigh 18 = .ok (.iload_n 3, 1) := by decide +kernel
theorem d_Pg_putHigh_19 : decode b_Pg_putHigh 19 = .ok (.bipush 8, 2) := by decide +kernel
theorem d_Pg_putHigh_21 : decode b_Pg_putHigh 21 = .ok (.iload 4, 2) := by decide +kernel
theorem d_Pg_putHigh_23 : decode b_Pg_putHigh 23 = .ok (.imul, 1) := by decide +kernel
theorem d_Pg_putHigh_24 : decode b_Pg_putHigh 24 = .ok (.ishr, 1) := by decide +kernel
theorem d_Pg_putHigh_25 : decode b_Pg_putHigh 25 = .ok (.invokevirtual 31, 3) := by decide +kernel
theorem d_Pg_putHigh_28 : decode b_Pg_putHigh 28 = .ok (.iinc 4 1, 3) := by decide +kernel
theorem d_Pg_putHigh_31 : decode b_Pg_putHigh 31 = .ok (.goto (-28), 3) := by decide +kernel
theorem d_Pg_putBoth_0 : decode b_Pg_putBoth 0 = .ok (.iconst 0, 1) := by decide +kernel
theorem d_Pg_putBoth_1 : decode b_Pg_putBoth 1 = .ok (.istore 4, 2) := by decide +kernel
theorem d_Pg_putBoth_3 : decode b_Pg_putBoth 3 = .ok (.iload 4, 2) := by decide +kernel
theorem d_Pg_putBoth_5 : decode b_Pg_putBoth 5 = .ok (.iload_n 2, 1) := by decide +kernel
theorem d_Pg_putBoth_6 : decode b_Pg_putBoth 6 = .ok (.if_icmp .ge 45, 3) := by decide +kernel
theorem d_Pg_putBoth_51 : decode b_Pg_putBoth 51 = .ok (.return_, 1) := by decide +kernel
theorem d_Pg_putBoth_9 : decode b_Pg_putBoth 9 = .ok (.aload_n 0, 1) := by decide +kernel
theorem d_Pg_putBoth_10 : decode b_Pg_putBoth 10 = .ok (.iload_n 1, 1) := by decide +kernel
theorem d_Pg_putBoth_11 : decode b_Pg_putBoth 11 = .ok (.iload 4, 2) := by decide +kernel
theorem d_Pg_putBoth_13 : decode b_Pg_putBoth 13 = .ok (.iadd, 1) := by decide +kernel
theorem d_Pg_putBoth_14 : decode b_Pg_putBoth 14 = .ok (.iload_n 3, 1) := by decide +kernel
theorem d_Pg_putBoth_15 : decode b_Pg_putBoth 15 = .ok (.bipush 8, 2) := by decide +kernel
theorem d_Pg_putBoth_17 : decode b_Pg_putBoth 17 = .ok (.iload 4, 2) := by decide +kernel
theorem d_Pg_putBoth_19 : decode b_Pg_putBoth 19 = .ok (.imul, 1) := by decide +kernel
theorem d_Pg_putBoth_20 : decode b_Pg_putBoth 20 = .ok (.ishr, 1) := by decide +kernel
theorem d_Pg_putBoth_21 : decode b_Pg_putBoth 21 = .ok (.invokevirtual 31, 3) := by decide +kernel
theorem d_Pg_putBoth_24 : decode b_Pg_putBoth 24 = .ok (.aload_n 0, 1) := by decide +kernel
theorem d_Pg_putBoth_25 : decode b_Pg_putBoth 25 = .ok (.iload_n 1, 1) := by decide +kernel
theorem d_Pg_putBoth_26 : decode b_Pg_putBoth 26 = .ok (.iconst 2, 1) := by decide +kernel
theorem d_Pg_putBoth_27 : decode b_Pg_putBoth 27 = .ok (.iload_n 2, 1) := by decide +kernel
theorem d_Pg_putBoth_28 : decode b_Pg_putBoth 28 = .ok (.imul, 1) := by decide +kernel
theorem d_Pg_putBoth_29 : decode b_Pg_putBoth 29 = .ok (.iadd, 1) := by decide +kernel
theorem d_Pg_putBoth_30 : decode b_Pg_putBoth 30 = .ok (.iconst 1, 1) := by decide +kernel
theorem d_Pg_putBoth_31 : decode b_Pg_putBoth 31 = .ok (.isub, 1) := by decide +kernel
theorem d_Pg_putBoth_32 : decode b_Pg_putBoth 32 = .ok (.iload 4, 2) := by decide +kernel
theorem d_Pg_putBoth_34 : decode b_Pg_putBoth 34 = .ok (.isub, 1) := by decide +kernel
theorem d_Pg_putBoth_35 : decode b_Pg_putBoth 35 = .ok (.iload_n 3, 1) := by decide +kernel
theorem d_Pg_putBoth_36 : decode b_Pg_putBoth 36 = .ok (.bipush 8, 2) := by decide +kernel
theorem d_Pg_putBoth_38 : decode b_Pg_putBoth 38 = .ok (.iload 4, 2) := by decide +kernel
theorem d_Pg_putBoth_40 : decode b_Pg_putBoth 40 = .ok (.imul, 1) := by decide +kernel
theorem d_Pg_putBoth_41 : decode b_Pg_putBoth 41 = .ok (.ishr, 1) := by decide +kernel
theorem d_Pg_putBoth_42 : decode b_Pg_putBoth 42 = .ok (.invokevirtual 31, 3) := by decide +kernel
theorem d_Pg_putBoth_45 : decode b_Pg_putBoth 45 = .ok (.iinc 4 1, 3) := by decide +kernel
theorem d_Pg_putBoth_48 : decode b_Pg_putBoth 48 = .ok (.goto (-45), 3) := by decide +kernel
set_option maxHeartbeats 4000000 in
set_option maxRecDepth 100000 in
theorem c_Page_put (l : Launch) (D : va_G) (t : Nat → ClassId) (G : Heap) (ak av : Nat → Nat) (h : hM) (h0 pb n : Nat) (at_ v : Int32) (f_h0 : h h0 = some (.inr (3, [.ref pb]))) (hpb : pgF t h pb n) (hn : n < 2 ^ 31) : Met l y_Pg_put (.code y_Pg_put b_Pg_put 3 none :: lw_g) { frames := 0, cells := 0, slots := 0, locals := 0 } (hP (kE D t G ak av) D vwCl G h [.ref h0, .int at_, .int v]) (hQv D vwCl G (fun h' => kp [pb] h h' ∧ pgF t h' pb n)) 0 0 (fun q => G.size ≤ q) := by
  refine Met.ofW (cc := b_Pg_put) (maxL := 3) (ret := none) (by decide) rfl ?_
  intro p e s m args below meth c s₁ Bd hml hv
  obtain ⟨ha, hE, hH⟩ := hv
  have hx := Bd.exec
  have hb := Bd.bytes
  have hr := Bd.returns
  have hts : ∀ w ∈ lw_g, w.before args s = true := fun w hw => atoms_spec (ws := (.code y_Pg_put b_Pg_put 3 none :: lw_g)) Bd.pre w (List.mem_cons_of_mem _ hw)
  have hown : s.vm.findClass R_Pg = some m.cls := findClass_of_methodNamed Bd.named
  have hlocks := Bd.notSynchronized
  have hK := hE.1
  have hH0 := hH
  have hLo : hLc G.size [] := hLc_nil
  have hz : s.heap.size ≤ s.heap.size := Nat.le_refl _
  have hkp : kp [pb] h h := kp_rf
  have hl := lv_entry [.ref h0, .int at_, .int v] (n := 3) (Nat.le_of_ble_eq_true rfl)
  rw [show entryFrame m args 3 = F0 m 0 ((lg_sl [.ref h0, .int at_, .int v] ++ List.replicate (3 - (lg_sl [.ref h0, .int at_, .int v]).length) Slot.unset).toArray) [] from (by rw [ha]; exact lg_entry_eq m [.ref h0, .int at_, .int v] 3)]
  generalize (lg_sl [.ref h0, .int at_, .int v] ++ List.replicate (3 - (lg_sl [.ref h0, .int at_, .int v]).length) Slot.unset).toArray = ls at hl ⊢
  have hl : lv_has ls 3 [(0, .ref h0), (1, .int at_), (2, .int v)] := hl
  obtain ⟨f, hfit, f_pb⟩ := hpb
  refine lv_iload_n hx hb d_Pg_put_0 rfl (lv_at hl 1 rfl) ?_
  refine lv_if_lt (tgt := 21) hx hb d_Pg_put_1 (by decide) (fun hc1 => ?_) (fun hc1 => ?_)
  · skip
    exact W.vret hx hb hr (fun t9 ht hW => ⟨h, rfl, ⟨hkp, f, hfit, f_pb⟩, by rw [ht]; exact hH, by rw [ht]; exact hz⟩) hLo d_Pg_put_21
  · skip
    refine lv_iload_n hx hb d_Pg_put_4 rfl (lv_at hl 1 rfl) ?_
    refine lv_aload_n hx hb d_Pg_put_5 rfl (lv_at hl 0 rfl) ?_
    refine hm_get (ci := 3) (v := .ref pb) (C := R_Pg) (T := F_Pg) (N := 1) hx hb hts ig_Pg hown hK hH f_h0 rfl 0 (by decide) (hts _ mw_24) (fun _ h9 => h9) rfl d_Pg_put_6 ?_
    refine hm_alen (v := nI n) hx hb hK hH 0 f_pb (ty := .byte) rfl rfl d_Pg_put_9 ?_
    refine lv_icmp_ge (tgt := 21) hx hb d_Pg_put_10 (by decide) (fun hc2 => ?_) (fun hc2 => ?_)
    · skip
      exact W.vret hx hb hr (fun t9 ht hW => ⟨h, rfl, ⟨hkp, f, hfit, f_pb⟩, by rw [ht]; exact hH, by rw [ht]; exact hz⟩) hLo d_Pg_put_21
    · skip
      refine lv_aload_n hx hb d_Pg_put_13 rfl (lv_at hl 0 rfl) ?_
      refine hm_get (ci := 3) (v := .ref pb) (C := R_Pg) (T := F_Pg) (N := 1) hx hb hts ig_Pg hown hK hH f_h0 rfl 0 (by decide) (hts _ mw_24) (fun _ h9 => h9) rfl d_Pg_put_14 ?_
      refine lv_iload_n hx hb d_Pg_put_17 rfl (lv_at hl 1 rfl) ?_
      refine lv_iload_n hx hb d_Pg_put_18 rfl (lv_at hl 2 rfl) ?_
      refine lv_i2b (v := v.toInt8.toInt32) hx hb d_Pg_put_19 rfl ?_
      obtain ⟨j, hj, hat, -⟩ := pk_mu hc1 hc2 hn
      refine hj_bast hx hb hK hH hLo 0 f_pb rfl j hat hj hn d_Pg_put_20 (fun H3 locs hH z4 hLo => ?_)
      have hz : s.heap.size ≤ H3.size := by rw [z4]; exact hz
      obtain ⟨h5, e6⟩ : ∃ z, z = hu h pb (.inl ((t 0), n, .inl (upd f j (vp_nar .byte v.toInt8.toInt32)))) := ⟨_, rfl⟩
      have hH : hm D vwCl G h5 H3 := by rw [e6]; exact hH
      have f_h0 : h5 h0 = some (.inr (3, [.ref pb])) := by rw [e6, hu_n (Ne.symm (h_neA f_pb f_h0))]; exact f_h0
      have f_pb : h5 pb = some (.inl ((t 0), n, .inl (upd f j (vp_nar .byte v.toInt8.toInt32)))) := by rw [e6]; exact hu_s _ _ _
      have hkp : kp [pb] h h5 := by rw [e6]; exact kp_put hkp (by simp)
      exact W.vret hx hb hr (fun t9 ht hW => ⟨h5, rfl, ⟨hkp, _, sb_fitU hfit (fitNar _), f_pb⟩, by rw [ht]; exact hH, by rw [ht]; exact hz⟩) hLo d_Pg_put_21

set_option maxHeartbeats 4000000 in
set_option maxRecDepth 100000 in
theorem c_Page_putLow (l : Launch) (D : va_G) (t : Nat → ClassId) (G : Heap) (ak av : Nat → Nat) (h : hM) (h0 pb n : Nat) (at_ wd v : Int32) (f_h0 : h h0 = some (.inr (3, [.ref pb]))) (hpb : pgF t h pb n) (hn : n < 2 ^ 31) : Met l y_Pg_putLow (.code y_Pg_putLow b_Pg_putLow 5 none :: lw_g) { frames := 1, cells := 0, slots := 0, locals := 22 } (hP (kE D t G ak av) D vwCl G h [.ref h0, .int at_, .int wd, .int v]) (hQv D vwCl G (fun h' => kp [pb] h h' ∧ pgF t h' pb n)) 0 0 (fun q => G.size ≤ q) := by
  refine Met.ofW (cc := b_Pg_putLow) (maxL := 5) (ret := none) (by decide) rfl ?_
  intro p e s m args below meth c s₁ Bd hml hv
  obtain ⟨ha, hE, hH⟩ := hv
  have hx := Bd.exec
  have hb := Bd.bytes
  have hr := Bd.returns
  have hts : ∀ w ∈ lw_g, w.before args s = true := fun w hw => atoms_spec (ws := (.code y_Pg_putLow b_Pg_putLow 5 none :: lw_g)) Bd.pre w (List.mem_cons_of_mem _ hw)
  have hown : s.vm.findClass R_Pg = some m.cls := findClass_of_methodNamed Bd.named
  have hlocks := Bd.notSynchronized
  have hK := hE.1
  have hH0 := hH
  have hLo : hLc G.size [] := hLc_nil
  have hz : s.heap.size ≤ s.heap.size := Nat.le_refl _
  have hkp : kp [pb] h h := kp_rf
  have hl := lv_entry [.ref h0, .int at_, .int wd, .int v] (n := 5) (Nat.le_of_ble_eq_true rfl)
  rw [show entryFrame m args 5 = F0 m 0 ((lg_sl [.ref h0, .int at_, .int wd, .int v] ++ List.replicate (5 - (lg_sl [.ref h0, .int at_, .int wd, .int v]).length) Slot.unset).toArray) [] from (by rw [ha]; exact lg_entry_eq m [.ref h0, .int at_, .int wd, .int v] 5)]
  generalize (lg_sl [.ref h0, .int at_, .int wd, .int v] ++ List.replicate (5 - (lg_sl [.ref h0, .int at_, .int wd, .int v]).length) Slot.unset).toArray = ls at hl ⊢
  have hl : lv_has ls 5 [(0, .ref h0), (1, .int at_), (2, .int wd), (3, .int v)] := hl
  obtain ⟨f, hfit, f_pb⟩ := hpb
  refine lv_iconst (v := 0) hx hb d_Pg_putLow_0 (by decide) ?_
  refine lv_istore (lv' := [(4, .int 0), (0, .ref h0), (1, .int at_), (2, .int wd), (3, .int v)]) hx hb d_Pg_putLow_1 hl (by decide) rfl (fun ls hl => ?_)
  refine hm_loop (fun k ls H locs hh => ∃ (x : Int32), k = (wd.toInt - x.toInt).toNat ∧ lv_has ls 5 [(4, .int x), (0, .ref h0), (1, .int at_), (2, .int wd), (3, .int v)] ∧ hm D vwCl G hh H ∧ s.heap.size ≤ H.size ∧ hLc G.size locs ∧ kp [pb] h hh ∧ hh h0 = some (.inr (3, [.ref pb])) ∧ (pgF t hh pb n)) ?_ (hh := h) ⟨0, rfl, (lv_sub hl [0, 1, 2, 3, 4] rfl), hH, hz, hLo, hkp, f_h0, ⟨f, hfit, f_pb⟩⟩
  rintro k ls H locs hh ⟨x, hk, hl, hH, hz, hLo, hkp, f_h0, hpb⟩ ih
  obtain ⟨f, hfit, f_pb⟩ := hpb
  refine lv_iload hx hb d_Pg_putLow_3 (lv_at hl 0 rfl) ?_
  refine lv_iload_n hx hb d_Pg_putLow_5 rfl (lv_at hl 3 rfl) ?_
  refine lv_icmp_ge (tgt := 30) hx hb d_Pg_putLow_6 (by decide) (fun hc1 => ?_) (fun hc1 => ?_)
  · skip
    exact W.vret hx hb hr (fun t9 ht hW => ⟨hh, rfl, ⟨hkp, f, hfit, f_pb⟩, by rw [ht]; exact hH, by rw [ht]; exact hz⟩) hLo d_Pg_putLow_30
  · skip
    refine lv_aload_n hx hb d_Pg_putLow_9 rfl (lv_at hl 1 rfl) ?_
    refine lv_iload_n hx hb d_Pg_putLow_10 rfl (lv_at hl 2 rfl) ?_
    refine lv_iload hx hb d_Pg_putLow_11 (lv_at hl 0 rfl) ?_
    refine lv_iadd hx hb d_Pg_putLow_13 ?_
    refine lv_iload_n hx hb d_Pg_putLow_14 rfl (lv_at hl 4 rfl) ?_
    refine lv_bipush (v := 8) hx hb d_Pg_putLow_15 (by decide) ?_
    refine lv_iload hx hb d_Pg_putLow_17 (lv_at hl 0 rfl) ?_
    refine lv_imul hx hb d_Pg_putLow_19 ?_
    refine lv_ishr hx hb d_Pg_putLow_20 ?_
    refine hm_callv (va_runV (As := [.int (at_ + x), .int (v >>> ((8 * x) &&& 31))]) (b := h0) (rest := []) ⟨hx, hb, hml, hown, hts⟩ (c_Page_put l D t G ak av hh h0 pb n (at_ + x) (v >>> ((8 * x) &&& 31)) f_h0 ⟨f, hfit, f_pb⟩ hn) ⟨cw9B 2 hts mw_66 mw_67 mw_52 rfl rfl (by decide +kernel) ⟨Nat.le_of_ble_eq_true rfl, Nat.le_of_ble_eq_true rfl⟩, hts _ mw_68, hts _ mw_69⟩ (hP_V (q := (R_Pg, F_Pg, 1)) kE_ok hE hK hH f_h0 rfl) rfl rfl hl.1 rfl (lv_room (Nat.le_of_ble_eq_true rfl)) d_Pg_putLow_21 ⟨Nat.le_of_ble_eq_true rfl, Nat.le_of_ble_eq_true rfl⟩) hLo (fun h2 H3 locs hp5 hH z4 hLo => ?_)
    have hz : s.heap.size ≤ H3.size := Nat.le_trans hz z4
    obtain ⟨hk9, f, hfit, f_pb2⟩ := hp5
    have f_h0 : h2 h0 = some (.inr (3, [.ref pb])) := kp_at hk9 f_h0 (nmc (Ne.symm (h_neA f_pb f_h0)) nm0)
    have hkp : kp [pb] h h2 := kp_tr2 hkp hk9 (List.forall_mem_cons.mpr ⟨Or.inl (by simp), List.forall_mem_nil _⟩)
    have f_pb : h2 pb = some (.inl ((t 0), n, .inl f)) := f_pb2
    refine lv_iinc (v := x + 1) (lv' := [(4, .int (x + 1)), (0, .ref h0), (1, .int at_), (2, .int wd), (3, .int v)]) hx hb d_Pg_putLow_24 hl (k := 0) rfl (by rfl) (by decide) rfl (fun ls hl => ?_)
    refine lv_goto (tgt := 3) hx hb d_Pg_putLow_27 (by decide) ?_
    exact ih ((wd.toInt - (x + 1).toInt).toNat) ls _ locs _ (by rw [hk]; exact i32_step hc1) ⟨(x + 1), rfl, (lv_sub hl [0, 1, 2, 3, 4] rfl), hH, hz, hLo, hkp, f_h0, ⟨f, hfit, f_pb⟩⟩

set_option maxHeartbeats 4000000 in
set_option maxRecDepth 100000 in
theorem c_Page_putHigh (l : Launch) (D : va_G) (t : Nat → ClassId) (G : Heap) (ak av : Nat → Nat) (h : hM) (h0 pb n : Nat) (at_ wd v : Int32) (f_h0 : h h0 = some (.inr (3, [.ref pb]))) (hpb : pgF t h pb n) (hn : n < 2 ^ 31) : Met l y_Pg_putHigh (.code y_Pg_putHigh b_Pg_putHigh 5 none :: lw_g) { frames := 1, cells := 0, slots := 0, locals := 22 } (hP (kE D t G ak av) D vwCl G h [.ref h0, .int at_, .int wd, .int v]) (hQv D vwCl G (fun h' => kp [pb] h h' ∧ pgF t h' pb n)) 0 0 (fun q => G.size ≤ q) := by
  refine Met.ofW (cc := b_Pg_putHigh) (maxL := 5) (ret := none) (by decide) rfl ?_
  intro p e s m args below meth c s₁ Bd hml hv
  obtain ⟨ha, hE, hH⟩ := hv
  have hx := Bd.exec
  have hb := Bd.bytes
  have hr := Bd.returns
  have hts : ∀ w ∈ lw_g, w.before args s = true := fun w hw => atoms_spec (ws := (.code y_Pg_putHigh b_Pg_putHigh 5 none :: lw_g)) Bd.pre w (List.mem_cons_of_mem _ hw)
  have hown : s.vm.findClass R_Pg = some m.cls := findClass_of_methodNamed Bd.named
  have hlocks := Bd.notSynchronized
  have hK := hE.1
  have hH0 := hH
  have hLo : hLc G.size [] := hLc_nil
  have hz : s.heap.size ≤ s.heap.size := Nat.le_refl _
  have hkp : kp [pb] h h := kp_rf
  have hl := lv_entry [.ref h0, .int at_, .int wd, .int v] (n := 5) (Nat.le_of_ble_eq_true rfl)
  rw [show entryFrame m args 5 = F0 m 0 ((lg_sl [.ref h0, .int at_, .int wd, .int v] ++ List.replicate (5 - (lg_sl [.ref h0, .int at_, .int wd, .int v]).length) Slot.unset).toArray) [] from (by rw [ha]; exact lg_entry_eq m [.ref h0, .int at_, .int wd, .int v] 5)]
  generalize (lg_sl [.ref h0, .int at_, .int wd, .int v] ++ List.replicate (5 - (lg_sl [.ref h0, .int at_, .int wd, .int v]).length) Slot.unset).toArray = ls at hl ⊢
  have hl : lv_has ls 5 [(0, .ref h0), (1, .int at_), (2, .int wd), (3, .int v)] := hl
  obtain ⟨f, hfit, f_pb⟩ := hpb
  refine lv_iconst (v := 0) hx hb d_Pg_putHigh_0 (by decide) ?_
  refine lv_istore (lv' := [(4, .int 0), (0, .ref h0), (1, .int at_), (2, .int wd), (3, .int v)]) hx hb d_Pg_putHigh_1 hl (by decide) rfl (fun ls hl => ?_)
  refine hm_loop (fun k ls H locs hh => ∃ (x : Int32), k = (wd.toInt - x.toInt).toNat ∧ lv_has ls 5 [(4, .int x), (0, .ref h0), (1, .int at_), (2, .int wd), (3, .int v)] ∧ hm D vwCl G hh H ∧ s.heap.size ≤ H.size ∧ hLc G.size locs ∧ kp [pb] h hh ∧ hh h0 = some (.inr (3, [.ref pb])) ∧ (pgF t hh pb n)) ?_ (hh := h) ⟨0, rfl, (lv_sub hl [0, 1, 2, 3, 4] rfl), hH, hz, hLo, hkp, f_h0, ⟨f, hfit, f_pb⟩⟩
  rintro k ls H locs hh ⟨x, hk, hl, hH, hz, hLo, hkp, f_h0, hpb⟩ ih
  obtain ⟨f, hfit, f_pb⟩ := hpb
  refine lv_iload hx hb d_Pg_putHigh_3 (lv_at hl 0 rfl) ?_
  refine lv_iload_n hx hb d_Pg_putHigh_5 rfl (lv_at hl 3 rfl) ?_
  refine lv_icmp_ge (tgt := 34) hx hb d_Pg_putHigh_6 (by decide) (fun hc1 => ?_) (fun hc1 => ?_)
  · skip
    exact W.vret hx hb hr (fun t9 ht hW => ⟨hh, rfl, ⟨hkp, f, hfit, f_pb⟩, by rw [ht]; exact hH, by rw [ht]; exact hz⟩) hLo d_Pg_putHigh_34
  · skip
    refine lv_aload_n hx hb d_Pg_putHigh_9 rfl (lv_at hl 1 rfl) ?_
    refine lv_iload_n hx hb d_Pg_putHigh_10 rfl (lv_at hl 2 rfl) ?_
    refine lv_iload_n hx hb d_Pg_putHigh_11 rfl (lv_at hl 3 rfl) ?_
    refine lv_iadd hx hb d_Pg_putHigh_12 ?_
    refine lv_iconst (v := 1) hx hb d_Pg_putHigh_13 (by decide) ?_
    refine lv_isub hx hb d_Pg_putHigh_14 ?_
    refine lv_iload hx hb d_Pg_putHigh_15 (lv_at hl 0 rfl) ?_
    refine lv_isub hx hb d_Pg_putHigh_17 ?_
    refine lv_iload_n hx hb d_Pg_putHigh_18 rfl (lv_at hl 4 rfl) ?_
    refine lv_bipush (v := 8) hx hb d_Pg_putHigh_19 (by decide) ?_
    refine lv_iload hx hb d_Pg_putHigh_21 (lv_at hl 0 rfl) ?_
    refine lv_imul hx hb d_Pg_putHigh_23 ?_
    refine lv_ishr hx hb d_Pg_putHigh_24 ?_
    refine hm_callv (va_runV (As := [.int (((at_ + wd) - 1) - x), .int (v >>> ((8 * x) &&& 31))]) (b := h0) (rest := []) ⟨hx, hb, hml, hown, hts⟩ (c_Page_put l D t G ak av hh h0 pb n (((at_ + wd) - 1) - x) (v >>> ((8 * x) &&& 31)) f_h0 ⟨f, hfit, f_pb⟩ hn) ⟨cw9B 2 hts mw_66 mw_67 mw_52 rfl rfl (by decide +kernel) ⟨Nat.le_of_ble_eq_true rfl, Nat.le_of_ble_eq_true rfl⟩, hts _ mw_68, hts _ mw_69⟩ (hP_V (q := (R_Pg, F_Pg, 1)) kE_ok hE hK hH f_h0 rfl) rfl rfl hl.1 rfl (lv_room (Nat.le_of_ble_eq_true rfl)) d_Pg_putHigh_25 ⟨Nat.le_of_ble_eq_true rfl, Nat.le_of_ble_eq_true rfl⟩) hLo (fun h2 H3 locs hp5 hH z4 hLo => ?_)
    have hz : s.heap.size ≤ H3.size := Nat.le_trans hz z4
    obtain ⟨hk9, f, hfit, f_pb2⟩ := hp5
    have f_h0 : h2 h0 = some (.inr (3, [.ref pb])) := kp_at hk9 f_h0 (nmc (Ne.symm (h_neA f_pb f_h0)) nm0)
    have hkp : kp [pb] h h2 := kp_tr2 hkp hk9 (List.forall_mem_cons.mpr ⟨Or.inl (by simp), List.forall_mem_nil _⟩)
    have f_pb : h2 pb = some (.inl ((t 0), n, .inl f)) := f_pb2
    refine lv_iinc (v := x + 1) (lv' := [(4, .int (x + 1)), (0, .ref h0), (1, .int at_), (2, .int wd), (3, .int v)]) hx hb d_Pg_putHigh_28 hl (k := 0) rfl (by rfl) (by decide) rfl (fun ls hl => ?_)
    refine lv_goto (tgt := 3) hx hb d_Pg_putHigh_31 (by decide) ?_
    exact ih ((wd.toInt - (x + 1).toInt).toNat) ls _ locs _ (by rw [hk]; exact i32_step hc1) ⟨(x + 1), rfl, (lv_sub hl [0, 1, 2, 3, 4] rfl), hH, hz, hLo, hkp, f_h0, ⟨f, hfit, f_pb⟩⟩

set_option maxHeartbeats 4000000 in
set_option maxRecDepth 100000 in
theorem c_Page_putBoth (l : Launch) (D : va_G) (t : Nat → ClassId) (G : Heap) (ak av : Nat → Nat) (h : hM) (h0 pb n : Nat) (at_ wd v : Int32) (f_h0 : h h0 = some (.inr (3, [.ref pb]))) (hpb : pgF t h pb n) (hn : n < 2 ^ 31) : Met l y_Pg_putBoth (.code y_Pg_putBoth b_Pg_putBoth 5 none :: lw_g) { frames := 1, cells := 0, slots := 0, locals := 22 } (hP (kE D t G ak av) D vwCl G h [.ref h0, .int at_, .int wd, .int v]) (hQv D vwCl G (fun h' => kp [pb] h h' ∧ pgF t h' pb n)) 0 0 (fun q => G.size ≤ q) := by
  refine Met.ofW (cc := b_Pg_putBoth) (maxL := 5) (ret := none) (by decide) rfl ?_
  intro p e s m args below meth c s₁ Bd hml hv
  obtain ⟨ha, hE, hH⟩ := hv
  have hx := Bd.exec
  have hb := Bd.bytes
  have hr := Bd.returns
  have hts : ∀ w ∈ lw_g, w.before args s = true := fun w hw => atoms_spec (ws := (.code y_Pg_putBoth b_Pg_putBoth 5 none :: lw_g)) Bd.pre w (List.mem_cons_of_mem _ hw)
  have hown : s.vm.findClass R_Pg = some m.cls := findClass_of_methodNamed Bd.named
  have hlocks := Bd.notSynchronized
  have hK := hE.1
  have hH0 := hH
  have hLo : hLc G.size [] := hLc_nil
  have hz : s.heap.size ≤ s.heap.size := Nat.le_refl _
  have hkp : kp [pb] h h := kp_rf
  have hl := lv_entry [.ref h0, .int at_, .int wd, .int v] (n := 5) (Nat.le_of_ble_eq_true rfl)
  rw [show entryFrame m args 5 = F0 m 0 ((lg_sl [.ref h0, .int at_, .int wd, .int v] ++ List.replicate (5 - (lg_sl [.ref h0, .int at_, .int wd, .int v]).length) Slot.unset).toArray) [] from (by rw [ha]; exact lg_entry_eq m [.ref h0, .int at_, .int wd, .int v] 5)]
  generalize (lg_sl [.ref h0, .int at_, .int wd, .int v] ++ List.replicate (5 - (lg_sl [.ref h0, .int at_, .int wd, .int v]).length) Slot.unset).toArray = ls at hl ⊢
  have hl : lv_has ls 5 [(0, .ref h0), (1, .int at_), (2, .int wd), (3, .int v)] := hl
  obtain ⟨f, hfit, f_pb⟩ := hpb
  refine lv_iconst (v := 0) hx hb d_Pg_putBoth_0 (by decide) ?_
  refine lv_istore (lv' := [(4, .int 0), (0, .ref h0), (1, .int at_), (2, .int wd), (3, .int v)]) hx hb d_Pg_putBoth_1 hl (by decide) rfl (fun ls hl => ?_)
  refine hm_loop (fun k ls H locs hh => ∃ (x : Int32), k = (wd.toInt - x.toInt).toNat ∧ lv_has ls 5 [(4, .int x), (0, .ref h0), (1, .int at_), (2, .int wd), (3, .int v)] ∧ hm D vwCl G hh H ∧ s.heap.size ≤ H.size ∧ hLc G.size locs ∧ kp [pb] h hh ∧ hh h0 = some (.inr (3, [.ref pb])) ∧ (pgF t hh pb n)) ?_ (hh := h) ⟨0, rfl, (lv_sub hl [0, 1, 2, 3, 4] rfl), hH, hz, hLo, hkp, f_h0, ⟨f, hfit, f_pb⟩⟩
  rintro k ls H locs hh ⟨x, hk, hl, hH, hz, hLo, hkp, f_h0, hpb⟩ ih
  obtain ⟨f, hfit, f_pb⟩ := hpb
  refine lv_iload hx hb d_Pg_putBoth_3 (lv_at hl 0 rfl) ?_
  refine lv_iload_n hx hb d_Pg_putBoth_5 rfl (lv_at hl 3 rfl) ?_
  refine lv_icmp_ge (tgt := 51) hx hb d_Pg_putBoth_6 (by decide) (fun hc1 => ?_) (fun hc1 => ?_)
  · skip
    exact W.vret hx hb hr (fun t9 ht hW => ⟨hh, rfl, ⟨hkp, f, hfit, f_pb⟩, by rw [ht]; exact hH, by rw [ht]; exact hz⟩) hLo d_Pg_putBoth_51
  · skip
    refine lv_aload_n hx hb d_Pg_putBoth_9 rfl (lv_at hl 1 rfl) ?_
    refine lv_iload_n hx hb d_Pg_putBoth_10 rfl (lv_at hl 2 rfl) ?_
    refine lv_iload hx hb d_Pg_putBoth_11 (lv_at hl 0 rfl) ?_
    refine lv_iadd hx hb d_Pg_putBoth_13 ?_
    refine lv_iload_n hx hb d_Pg_putBoth_14 rfl (lv_at hl 4 rfl) ?_
    refine lv_bipush (v := 8) hx hb d_Pg_putBoth_15 (by decide) ?_
    refine lv_iload hx hb d_Pg_putBoth_17 (lv_at hl 0 rfl) ?_
    refine lv_imul hx hb d_Pg_putBoth_19 ?_
    refine lv_ishr hx hb d_Pg_putBoth_20 ?_
    refine hm_callv (va_runV (As := [.int (at_ + x), .int (v >>> ((8 * x) &&& 31))]) (b := h0) (rest := []) ⟨hx, hb, hml, hown, hts⟩ (c_Page_put l D t G ak av hh h0 pb n (at_ + x) (v >>> ((8 * x) &&& 31)) f_h0 ⟨f, hfit, f_pb⟩ hn) ⟨cw9B 2 hts mw_66 mw_67 mw_52 rfl rfl (by decide +kernel) ⟨Nat.le_of_ble_eq_true rfl, Nat.le_of_ble_eq_true rfl⟩, hts _ mw_68, hts _ mw_69⟩ (hP_V (q := (R_Pg, F_Pg, 1)) kE_ok hE hK hH f_h0 rfl) rfl rfl hl.1 rfl (lv_room (Nat.le_of_ble_eq_true rfl)) d_Pg_putBoth_21 ⟨Nat.le_of_ble_eq_true rfl, Nat.le_of_ble_eq_true rfl⟩) hLo (fun h2 H3 locs hp5 hH z4 hLo => ?_)
    have hz : s.heap.size ≤ H3.size := Nat.le_trans hz z4
    obtain ⟨hk9, f, hfit, f_pb2⟩ := hp5
    have f_h0 : h2 h0 = some (.inr (3, [.ref pb])) := kp_at hk9 f_h0 (nmc (Ne.symm (h_neA f_pb f_h0)) nm0)
    have hkp : kp [pb] h h2 := kp_tr2 hkp hk9 (List.forall_mem_cons.mpr ⟨Or.inl (by simp), List.forall_mem_nil _⟩)
    have f_pb : h2 pb = some (.inl ((t 0), n, .inl f)) := f_pb2
    refine lv_aload_n hx hb d_Pg_putBoth_24 rfl (lv_at hl 1 rfl) ?_
    refine lv_iload_n hx hb d_Pg_putBoth_25 rfl (lv_at hl 2 rfl) ?_
    refine lv_iconst (v := 2) hx hb d_Pg_putBoth_26 (by decide) ?_
    refine lv_iload_n hx hb d_Pg_putBoth_27 rfl (lv_at hl 3 rfl) ?_
    refine lv_imul hx hb d_Pg_putBoth_28 ?_
    refine lv_iadd hx hb d_Pg_putBoth_29 ?_
    refine lv_iconst (v := 1) hx hb d_Pg_putBoth_30 (by decide) ?_
    refine lv_isub hx hb d_Pg_putBoth_31 ?_
    refine lv_iload hx hb d_Pg_putBoth_32 (lv_at hl 0 rfl) ?_
    refine lv_isub hx hb d_Pg_putBoth_34 ?_
    refine lv_iload_n hx hb d_Pg_putBoth_35 rfl (lv_at hl 4 rfl) ?_
    refine lv_bipush (v := 8) hx hb d_Pg_putBoth_36 (by decide) ?_
    refine lv_iload hx hb d_Pg_putBoth_38 (lv_at hl 0 rfl) ?_
    refine lv_imul hx hb d_Pg_putBoth_40 ?_
    refine lv_ishr hx hb d_Pg_putBoth_41 ?_
    refine hm_callv (va_runV (As := [.int (((at_ + (2 * wd)) - 1) - x), .int (v >>> ((8 * x) &&& 31))]) (b := h0) (rest := []) ⟨hx, hb, hml, hown, hts⟩ (c_Page_put l D t G ak av h2 h0 pb n (((at_ + (2 * wd)) - 1) - x) (v >>> ((8 * x) &&& 31)) f_h0 ⟨f, hfit, f_pb⟩ hn) ⟨cw9B 2 hts mw_66 mw_67 mw_52 rfl rfl (by decide +kernel) ⟨Nat.le_of_ble_eq_true rfl, Nat.le_of_ble_eq_true rfl⟩, hts _ mw_68, hts _ mw_69⟩ (hP_V (q := (R_Pg, F_Pg, 1)) kE_ok hE hK hH f_h0 rfl) rfl rfl hl.1 rfl (lv_room (Nat.le_of_ble_eq_true rfl)) d_Pg_putBoth_42 ⟨Nat.le_of_ble_eq_true rfl, Nat.le_of_ble_eq_true rfl⟩) hLo (fun h6 H7 locs hp9 hH z8 hLo => ?_)
    have hz : s.heap.size ≤ H7.size := Nat.le_trans hz z8
    obtain ⟨hk9, f, hfit, f_pb2⟩ := hp9
    have f_h0 : h6 h0 = some (.inr (3, [.ref pb])) := kp_at hk9 f_h0 (nmc (Ne.symm (h_neA f_pb f_h0)) nm0)
    have hkp : kp [pb] h h6 := kp_tr2 hkp hk9 (List.forall_mem_cons.mpr ⟨Or.inl (by simp), List.forall_mem_nil _⟩)
    have f_pb : h6 pb = some (.inl ((t 0), n, .inl f)) := f_pb2
    refine lv_iinc (v := x + 1) (lv' := [(4, .int (x + 1)), (0, .ref h0), (1, .int at_), (2, .int wd), (3, .int v)]) hx hb d_Pg_putBoth_45 hl (k := 0) rfl (by rfl) (by decide) rfl (fun ls hl => ?_)
    refine lv_goto (tgt := 3) hx hb d_Pg_putBoth_48 (by decide) ?_
    exact ih ((wd.toInt - (x + 1).toInt).toNat) ls _ locs _ (by rw [hk]; exact i32_step hc1) ⟨(x + 1), rfl, (lv_sub hl [0, 1, 2, 3, 4] rfl), hH, hz, hLo, hkp, f_h0, ⟨f, hfit, f_pb⟩⟩
end
section
set_option maxRecDepth 100000 in
theorem mw_70 : Cond.fieldLink R_St 38 "java/lang/String" "COMPACT_STRINGS" "Z" ∈ lw_g := lw_gin (List.mem_append_right _ (List.mem_of_getElem? (i := 477) rfl)) (by decide +kernel)
set_option maxRecDepth 100000 in
theorem mw_71 : Cond.fieldLink R_St 15 "java/lang/String" "coder" "B" ∈ lw_g := lw_gin (List.mem_append_right _ (List.mem_of_getElem? (i := 1329) rfl)) (by decide +kernel)
set_option maxRecDepth 100000 in
theorem mw_72 : Cond.fieldLink R_St 9 "java/lang/String" "value" "[B" ∈ lw_g := lw_gin (List.mem_append_right _ (List.mem_of_getElem? (i := 1328) rfl)) (by decide +kernel)
set_option maxRecDepth 100000 in
theorem mw_73 : Cond.code y_St_coder b_St_coder 1 (some .byte) ∈ lw_g := lw_gin (List.mem_append_right _ (List.mem_of_getElem? (i := 476) rfl)) (by decide +kernel)
set_option maxRecDepth 100000 in
theorem mw_74 : Cond.initialized R_St ∈ lw_g := lw_gin (List.mem_append_right _ (List.mem_of_getElem? (i := 14) rfl)) (by decide +kernel)
set_option maxRecDepth 100000 in
theorem mw_75 : Cond.methodLink R_St 335 y_St_coder ∈ lw_g := lw_gin (List.mem_append_right _ (List.mem_of_getElem? (i := 473) rfl)) (by decide +kernel)
set_option maxRecDepth 100000 in
theorem mw_76 : Cond.instanceMethod y_St_coder ∈ lw_g := lw_gin (List.mem_append_right _ (List.mem_of_getElem? (i := 474) rfl)) (by decide +kernel)
set_option maxRecDepth 100000 in
theorem mw_77 : Cond.selects R_St y_St_coder y_St_coder ∈ lw_g := lw_gin (List.mem_append_right _ (List.mem_of_getElem? (i := 475) rfl)) (by decide +kernel)
set_option maxRecDepth 100000 in
theorem mw_78 : Cond.fieldLink R_St 1053 "jdk/internal/util/Preconditions" "SIOOBE_FORMATTER" "Ljava/util/function/BiFunction;" ∈ lw_g := lw_gin (List.mem_append_right _ (List.mem_of_getElem? (i := 497) rfl)) (by decide +kernel)
set_option maxRecDepth 100000 in
theorem mw_79 : Cond.code y_Pr_checkIndex b_Pr_checkIndex 3 (some .int) ∈ lw_g := lw_gin (List.mem_append_right _ (List.mem_of_getElem? (i := 501) rfl)) (by decide +kernel)
set_option maxRecDepth 100000 in
theorem mw_80 : Cond.initialized R_Pr ∈ lw_g := lw_gin (List.mem_append_right _ (List.mem_of_getElem? (i := 16) rfl)) (by decide +kernel)
set_option maxRecDepth 100000 in
theorem mw_81 : Cond.methodLink R_St 1059 y_Pr_checkIndex ∈ lw_g := lw_gin (List.mem_append_right _ (List.mem_of_getElem? (i := 499) rfl)) (by decide +kernel)
set_option maxRecDepth 100000 in
theorem mw_82 : Cond.static y_Pr_checkIndex ∈ lw_g := lw_gin (List.mem_append_right _ (List.mem_of_getElem? (i := 500) rfl)) (by decide +kernel)
set_option maxRecDepth 100000 in
theorem mw_83 : Cond.code y_St_checkIndex b_St_checkIndex 2 none ∈ lw_g := lw_gin (List.mem_append_right _ (List.mem_of_getElem? (i := 496) rfl)) (by decide +kernel)
set_option maxRecDepth 100000 in
theorem mw_84 : Cond.methodLink R_S1 9 y_St_checkIndex ∈ lw_g := lw_gin (List.mem_append_right _ (List.mem_of_getElem? (i := 494) rfl)) (by decide +kernel)
set_option maxRecDepth 100000 in
theorem mw_85 : Cond.static y_St_checkIndex ∈ lw_g := lw_gin (List.mem_append_right _ (List.mem_of_getElem? (i := 495) rfl)) (by decide +kernel)
set_option maxRecDepth 100000 in
theorem mw_86 : Cond.code y_St_isLatin1 b_St_isLatin1 1 (some .boolean) ∈ lw_g := lw_gin (List.mem_append_right _ (List.mem_of_getElem? (i := 490) rfl)) (by decide +kernel)
set_option maxRecDepth 100000 in
theorem mw_87 : Cond.methodLink R_St 492 y_St_isLatin1 ∈ lw_g := lw_gin (List.mem_append_right _ (List.mem_of_getElem? (i := 487) rfl)) (by decide +kernel)
set_option maxRecDepth 100000 in
theorem mw_88 : Cond.instanceMethod y_St_isLatin1 ∈ lw_g := lw_gin (List.mem_append_right _ (List.mem_of_getElem? (i := 488) rfl)) (by decide +kernel)
set_option maxRecDepth 100000 in
theorem mw_89 : Cond.selects R_St y_St_isLatin1 y_St_isLatin1 ∈ lw_g := lw_gin (List.mem_append_right _ (List.mem_of_getElem? (i := 489) rfl)) (by decide +kernel)
set_option maxRecDepth 100000 in
theorem mw_90 : Cond.code y_S1_charAt b_S1_charAt 2 (some .char) ∈ lw_g := lw_gin (List.mem_append_right _ (List.mem_of_getElem? (i := 493) rfl)) (by decide +kernel)
set_option maxRecDepth 100000 in
theorem mw_91 : Cond.initialized R_S1 ∈ lw_g := lw_gin (List.mem_append_right _ (List.mem_of_getElem? (i := 15) rfl)) (by decide +kernel)
set_option maxRecDepth 100000 in
theorem mw_92 : Cond.methodLink R_St 495 y_S1_charAt ∈ lw_g := lw_gin (List.mem_append_right _ (List.mem_of_getElem? (i := 491) rfl)) (by decide +kernel)
set_option maxRecDepth 100000 in
theorem mw_93 : Cond.static y_S1_charAt ∈ lw_g := lw_gin (List.mem_append_right _ (List.mem_of_getElem? (i := 492) rfl)) (by decide +kernel)
set_option maxRecDepth 100000 in
theorem mw_94 : Cond.code y_Ar_fill b_Ar_fill 4 none ∈ lw_g := lw_gin (List.mem_append_right _ (List.mem_of_getElem? (i := 406) rfl)) (by decide +kernel)
set_option maxRecDepth 100000 in
theorem mw_95 : Cond.initialized R_Ar ∈ lw_g := lw_gin (List.mem_append_right _ (List.mem_of_getElem? (i := 12) rfl)) (by decide +kernel)
set_option maxRecDepth 100000 in
theorem mw_96 : Cond.methodLink R_Pg 15 y_Ar_fill ∈ lw_g := lw_gin (List.mem_append_right _ (List.mem_of_getElem? (i := 404) rfl)) (by decide +kernel)
set_option maxRecDepth 100000 in
theorem mw_97 : Cond.static y_Ar_fill ∈ lw_g := lw_gin (List.mem_append_right _ (List.mem_of_getElem? (i := 405) rfl)) (by decide +kernel)
set_option maxRecDepth 100000 in
theorem mw_98 : Cond.code y_St_length b_St_length 1 (some .int) ∈ lw_g := lw_gin (List.mem_append_right _ (List.mem_of_getElem? (i := 472) rfl)) (by decide +kernel)
set_option maxRecDepth 100000 in
theorem mw_99 : Cond.methodLink R_Pg 21 y_St_length ∈ lw_g := lw_gin (List.mem_append_right _ (List.mem_of_getElem? (i := 567) rfl)) (by decide +kernel)
set_option maxRecDepth 100000 in
theorem mw_100 : Cond.instanceMethod y_St_length ∈ lw_g := lw_gin (List.mem_append_right _ (List.mem_of_getElem? (i := 470) rfl)) (by decide +kernel)
set_option maxRecDepth 100000 in
theorem mw_101 : Cond.selects R_St y_St_length y_St_length ∈ lw_g := lw_gin (List.mem_append_right _ (List.mem_of_getElem? (i := 471) rfl)) (by decide +kernel)
set_option maxRecDepth 100000 in
theorem mw_102 : Cond.code y_St_charAt b_St_charAt 2 (some .char) ∈ lw_g := lw_gin (List.mem_append_right _ (List.mem_of_getElem? (i := 486) rfl)) (by decide +kernel)
set_option maxRecDepth 100000 in
theorem mw_103 : Cond.methodLink R_Pg 27 y_St_charAt ∈ lw_g := lw_gin (List.mem_append_right _ (List.mem_of_getElem? (i := 568) rfl)) (by decide +kernel)
set_option maxRecDepth 100000 in
theorem mw_104 : Cond.instanceMethod y_St_charAt ∈ lw_g := lw_gin (List.mem_append_right _ (List.mem_of_getElem? (i := 484) rfl)) (by decide +kernel)
set_option maxRecDepth 100000 in
theorem mw_105 : Cond.selects R_St y_St_charAt y_St_charAt ∈ lw_g := lw_gin (List.mem_append_right _ (List.mem_of_getElem? (i := 485) rfl)) (by decide +kernel)
theorem d_St_coder_0 : decode b_St_coder 0 = .ok (.getstatic 38, 3) := by decide +kernel
theorem d_St_coder_3 : decode b_St_coder 3 = .ok (.ifCond .eq 10, 3) := by decide +kernel
theorem d_St_coder_6 : decode b_St_coder 6 = .ok (.aload_n 0, 1) := by decide +kernel
theorem d_St_coder_7 : decode b_St_coder 7 = .ok (.getfield 15, 3) := by decide +kernel
theorem d_St_coder_10 : decode b_St_coder 10 = .ok (.goto 4, 3) := by decide +kernel
theorem d_St_coder_14 : decode b_St_coder 14 = .ok (.ireturn, 1) := by decide +kernel
theorem d_St_isLatin1_0 : decode b_St_isLatin1 0 = .ok (.getstatic 38, 3) := by decide +kernel
theorem d_St_isLatin1_3 : decode b_St_isLatin1 3 = .ok (.ifCond .eq 14, 3) := by decide +kernel
theorem d_St_isLatin1_6 : decode b_St_isLatin1 6 = .ok (.aload_n 0, 1) := by decide +kernel
theorem d_St_isLatin1_7 : decode b_St_isLatin1 7 = .ok (.getfield 15, 3) := by decide +kernel
theorem d_St_isLatin1_10 : decode b_St_isLatin1 10 = .ok (.ifCond .ne 7, 3) := by decide +kernel
theorem d_St_isLatin1_13 : decode b_St_isLatin1 13 = .ok (.iconst 1, 1) := by decide +kernel
theorem d_St_isLatin1_14 : decode b_St_isLatin1 14 = .ok (.goto 4, 3) := by decide +kernel
theorem d_St_isLatin1_18 : decode b_St_isLatin1 18 = .ok (.ireturn, 1) := by decide +kernel
theorem d_St_length_0 : decode b_St_length 0 = .ok (.aload_n 0, 1) := by decide +kernel
theorem d_St_length_1 : decode b_St_length 1 = .ok (.getfield 9, 3) := by decide +kernel
theorem d_St_length_4 : decode b_St_length 4 = .ok (.arraylength, 1) := by decide +kernel
theorem d_St_length_5 : decode b_St_length 5 = .ok (.aload_n 0, 1) := by decide +kernel
theorem d_St_length_6 : decode b_St_length 6 = .ok (.invokevirtual 335, 3) := by decide +kernel
theorem d_St_length_9 : decode b_St_length 9 = .ok (.ishr, 1) := by decide +kernel
theorem d_St_length_10 : decode b_St_length 10 = .ok (.ireturn, 1) := by decide +kernel
theorem d_Pr_checkIndex_0 : decode b_Pr_checkIndex 0 = .ok (.iload_n 0, 1) := by decide +kernel
theorem d_Pr_checkIndex_1 : decode b_Pr_checkIndex 1 = .ok (.ifCond .lt 8, 3) := by decide +kernel
theorem d_Pr_checkIndex_4 : decode b_Pr_checkIndex 4 = .ok (.iload_n 0, 1) := by decide +kernel
theorem d_Pr_checkIndex_5 : decode b_Pr_checkIndex 5 = .ok (.iload_n 1, 1) := by decide +kernel
theorem d_Pr_checkIndex_6 : decode b_Pr_checkIndex 6 = .ok (.if_icmp .lt 10, 3) := by decide +kernel
theorem d_Pr_checkIndex_16 : decode b_Pr_checkIndex 16 = .ok (.iload_n 0, 1) := by decide +kernel
theorem d_Pr_checkIndex_17 : decode b_Pr_checkIndex 17 = .ok (.ireturn, 1) := by decide +kernel
theorem d_St_checkIndex_0 : decode b_St_checkIndex 0 = .ok (.iload_n 0, 1) := by decide +kernel
theorem d_St_checkIndex_1 : decode b_St_checkIndex 1 = .ok (.iload_n 1, 1) := by decide +kernel
theorem d_St_checkIndex_2 : decode b_St_checkIndex 2 = .ok (.getstatic 1053, 3) := by decide +kernel
theorem d_St_checkIndex_5 : decode b_St_checkIndex 5 = .ok (.invokestatic 1059, 3) := by decide +kernel
theorem d_St_checkIndex_8 : decode b_St_checkIndex 8 = .ok (.pop, 1) := by decide +kernel
theorem d_St_checkIndex_9 : decode b_St_checkIndex 9 = .ok (.return_, 1) := by decide +kernel
theorem d_S1_charAt_0 : decode b_S1_charAt 0 = .ok (.iload_n 1, 1) := by decide +kernel
theorem d_S1_charAt_1 : decode b_S1_charAt 1 = .ok (.aload_n 0, 1) := by decide +kernel
theorem d_S1_charAt_2 : decode b_S1_charAt 2 = .ok (.arraylength, 1) := by decide +kernel
theorem d_S1_charAt_3 : decode b_S1_charAt 3 = .ok (.invokestatic 9, 3) := by decide +kernel
theorem d_S1_charAt_6 : decode b_S1_charAt 6 = .ok (.aload_n 0, 1) := by decide +kernel
theorem d_S1_charAt_7 : decode b_S1_charAt 7 = .ok (.iload_n 1, 1) := by decide +kernel
theorem d_S1_charAt_8 : decode b_S1_charAt 8 = .ok (.baload, 1) := by decide +kernel
theorem d_S1_charAt_9 : decode b_S1_charAt 9 = .ok (.sipush 255, 3) := by decide +kernel
theorem d_S1_charAt_12 : decode b_S1_charAt 12 = .ok (.iand, 1) := by decide +kernel
theorem d_S1_charAt_13 : decode b_S1_charAt 13 = .ok (.i2c, 1) := by decide +kernel
theorem d_S1_charAt_14 : decode b_S1_charAt 14 = .ok (.ireturn, 1) := by decide +kernel
theorem d_St_charAt_0 : decode b_St_charAt 0 = .ok (.aload_n 0, 1) := by decide +kernel
theorem d_St_charAt_1 : decode b_St_charAt 1 = .ok (.invokevirtual 492, 3) := by decide +kernel
theorem d_St_charAt_4 : decode b_St_charAt 4 = .ok (.ifCond .eq 12, 3) := by decide +kernel
theorem d_St_charAt_7 : decode b_St_charAt 7 = .ok (.aload_n 0, 1) := by decide +kernel
theorem d_St_charAt_8 : decode b_St_charAt 8 = .ok (.getfield 9, 3) := by decide +kernel
theorem d_St_charAt_11 : decode b_St_charAt 11 = .ok (.iload_n 1, 1) := by decide +kernel
theorem d_St_charAt_12 : decode b_St_charAt 12 = .ok (.invokestatic 495, 3) := by decide +kernel
theorem d_St_charAt_15 : decode b_St_charAt 15 = .ok (.ireturn, 1) := by decide +kernel
theorem d_Ar_fill_0 : decode b_Ar_fill 0 = .ok (.iconst 0, 1) := by decide +kernel
theorem d_Ar_fill_1 : decode b_Ar_fill 1 = .ok (.istore_n 2, 1) := by decide +kernel
theorem d_Ar_fill_2 : decode b_Ar_fill 2 = .ok (.aload_n 0, 1) := by decide +kernel
theorem d_Ar_fill_3 : decode b_Ar_fill 3 = .ok (.arraylength, 1) := by decide +kernel
theorem d_Ar_fill_4 : decode b_Ar_fill 4 = .ok (.istore_n 3, 1) := by decide +kernel
theorem d_Ar_fill_5 : decode b_Ar_fill 5 = .ok (.iload_n 2, 1) := by decide +kernel
theorem d_Ar_fill_6 : decode b_Ar_fill 6 = .ok (.iload_n 3, 1) := by decide +kernel
theorem d_Ar_fill_7 : decode b_Ar_fill 7 = .ok (.if_icmp .ge 13, 3) := by decide +kernel
theorem d_Ar_fill_20 : decode b_Ar_fill 20 = .ok (.return_, 1) := by decide +kernel
theorem d_Ar_fill_10 : decode b_Ar_fill 10 = .ok (.aload_n 0, 1) := by decide +kernel
theorem d_Ar_fill_11 : decode b_Ar_fill 11 = .ok (.iload_n 2, 1) := by decide +kernel
theorem d_Ar_fill_12 : decode b_Ar_fill 12 = .ok (.iload_n 1, 1) := by decide +kernel
theorem d_Ar_fill_13 : decode b_Ar_fill 13 = .ok (.bastore, 1) := by decide +kernel
theorem d_Ar_fill_14 : decode b_Ar_fill 14 = .ok (.iinc 2 1, 3) := by decide +kernel
theorem d_Ar_fill_17 : decode b_Ar_fill 17 = .ok (.goto (-12), 3) := by decide +kernel
theorem d_Pg_clear_0 : decode b_Pg_clear 0 = .ok (.aload_n 0, 1) := by decide +kernel
theorem d_Pg_clear_1 : decode b_Pg_clear 1 = .ok (.getfield 9, 3) := by decide +kernel
theorem d_Pg_clear_4 : decode b_Pg_clear 4 = .ok (.iconst 0, 1) := by decide +kernel
theorem d_Pg_clear_5 : decode b_Pg_clear 5 = .ok (.invokestatic 15, 3) := by decide +kernel
theorem d_Pg_clear_8 : decode b_Pg_clear 8 = .ok (.return_, 1) := by decide +kernel
theorem d_Pg_putText_0 : decode b_Pg_putText 0 = .ok (.iconst 0, 1) := by decide +kernel
theorem d_Pg_putText_1 : decode b_Pg_putText 1 = .ok (.istore_n 3, 1) := by decide +kernel
theorem d_Pg_putText_2 : decode b_Pg_putText 2 = .ok (.iload_n 3, 1) := by decide +kernel
theorem d_Pg_putText_3 : decode b_Pg_putText 3 = .ok (.aload_n 2, 1) := by decide +kernel
theorem d_Pg_putText_4 : decode b_Pg_putText 4 = .ok (.invokevirtual 21, 3) := by decide +kernel
theorem d_Pg_putText_7 : decode b_Pg_putText 7 = .ok (.if_icmp .ge 21, 3) := by decide +kernel
theorem d_Pg_putText_28 : decode b_Pg_putText 28 = .ok (.return_, 1) := by decide +kernel
theorem d_Pg_putText_10 : decode b_Pg_putText 10 = .ok (.aload_n 0, 1) := by decide +kernel
theorem d_Pg_putText_11 : decode b_Pg_putText 11 = .ok (.iload_n 1, 1) := by decide +kernel
theorem d_Pg_putText_12 : decode b_Pg_putText 12 = .ok (.iload_n 3, 1) := by decide +kernel
theorem d_Pg_putText_13 : decode b_Pg_putText 13 = .ok (.iadd, 1) := by decide +kernel
theorem d_Pg_putText_14 : decode b_Pg_putText 14 = .ok (.aload_n 2, 1) := by decide +kernel
theorem d_Pg_putText_15 : decode b_Pg_putText 15 = .ok (.iload_n 3, 1) := by decide +kernel
theorem d_Pg_putText_16 : decode b_Pg_putText 16 = .ok (.invokevirtual 27, 3) := by decide +kernel
theorem d_Pg_putText_19 : decode b_Pg_putText 19 = .ok (.invokevirtual 31, 3) := by decide +kernel
theorem d_Pg_putText_22 : decode b_Pg_putText 22 = .ok (.iinc 3 1, 3) := by decide +kernel
theorem d_Pg_putText_25 : decode b_Pg_putText 25 = .ok (.goto (-23), 3) := by decide +kernel
/-- the literals are short -/
theorem sl_lt {i : Nat} (h : i < 2) : sLen.getD i 0 < 2 ^ 31 := by
  rcases (show i = 0 ∨ i = 1 by omega) with rfl | rfl <;> decide

set_option maxHeartbeats 4000000 in
set_option maxRecDepth 100000 in
theorem c_St_coder (l : Launch) (D : va_G) (t : Nat → ClassId) (G : Heap) (ak av : Nat → Nat) (h : hM) (i : Nat) (hi : i < 2) : Met l y_St_coder (.code y_St_coder b_St_coder 1 (some .byte) :: lw_g) { frames := 0, cells := 0, slots := 0, locals := 0 } (hP (kE D t G ak av) D vwCl G h [.ref (ak i)]) (hQi D vwCl G (fun r h' => r = 0 ∧ h = h')) 0 0 (fun q => G.size ≤ q) := by
  refine Met.ofW (cc := b_St_coder) (maxL := 1) (ret := (some .byte)) (by decide) rfl ?_
  intro p e s m args below meth c s₁ Bd hml hv
  obtain ⟨ha, hE, hH⟩ := hv
  have hx := Bd.exec
  have hb := Bd.bytes
  have hr := Bd.returns
  have hts : ∀ w ∈ lw_g, w.before args s = true := fun w hw => atoms_spec (ws := (.code y_St_coder b_St_coder 1 (some .byte) :: lw_g)) Bd.pre w (List.mem_cons_of_mem _ hw)
  have hown : s.vm.findClass R_St = some m.cls := findClass_of_methodNamed Bd.named
  have hlocks := Bd.notSynchronized
  have hK := hE.1
  have hH0 := hH
  have hLo : hLc G.size [] := hLc_nil
  have hz : s.heap.size ≤ s.heap.size := Nat.le_refl _
  have hkp : kp [] h h := kp_rf
  have hl := lv_entry [.ref (ak i)] (n := 1) (Nat.le_of_ble_eq_true rfl)
  rw [show entryFrame m args 1 = F0 m 0 ((lg_sl [.ref (ak i)] ++ List.replicate (1 - (lg_sl [.ref (ak i)]).length) Slot.unset).toArray) [] from (by rw [ha]; exact lg_entry_eq m [.ref (ak i)] 1)]
  generalize (lg_sl [.ref (ak i)] ++ List.replicate (1 - (lg_sl [.ref (ak i)]).length) Slot.unset).toArray = ls at hl ⊢
  have hl : lv_has ls 1 [(0, .ref (ak i))] := hl
  have hZ := K9 hE.2.2.2.2 hH0
  have hS := S9 hH0 hH hz hLo
  have hC := C9 hE.2.2.2.2 hH0
  have hS := S9 hH0 hH hz hLo
  refine va_gets (v := .int 1) hx hb hC hS hown (hts _ mw_70) (fun _ h9 => h9) d_St_coder_0 ?_
  refine lv_if_eq (tgt := 13) hx hb d_St_coder_3 (by decide) (fun hc1 => absurd hc1 (by decide)) (fun hc1 => ?_)
  refine lv_aload_n hx hb d_St_coder_6 rfl (lv_at hl 0 rfl) ?_
  have hS := S9 hH0 hH hz hLo
  refine vk_getf (v := .int 0) hx hb (hZ.1 i hi).2.1 hS hown (hts _ mw_71) (fun _ h9 => h9) d_St_coder_7 ?_
  refine lv_goto (tgt := 14) hx hb d_St_coder_10 (by decide) ?_
  exact W.zret (v := 0) hx hb hr (by decide) (fun t9 ht hW => ⟨0, h, rfl, ⟨rfl, rfl⟩, by rw [ht]; exact hH, by rw [ht]; exact hz⟩) hLo d_St_coder_14

set_option maxHeartbeats 4000000 in
set_option maxRecDepth 100000 in
theorem c_St_isLatin1 (l : Launch) (D : va_G) (t : Nat → ClassId) (G : Heap) (ak av : Nat → Nat) (h : hM) (i : Nat) (hi : i < 2) : Met l y_St_isLatin1 (.code y_St_isLatin1 b_St_isLatin1 1 (some .boolean) :: lw_g) { frames := 0, cells := 0, slots := 0, locals := 0 } (hP (kE D t G ak av) D vwCl G h [.ref (ak i)]) (hQi D vwCl G (fun r h' => r = 1 ∧ h = h')) 0 0 (fun q => G.size ≤ q) := by
  refine Met.ofW (cc := b_St_isLatin1) (maxL := 1) (ret := (some .boolean)) (by decide) rfl ?_
  intro p e s m args below meth c s₁ Bd hml hv
  obtain ⟨ha, hE, hH⟩ := hv
  have hx := Bd.exec
  have hb := Bd.bytes
  have hr := Bd.returns
  have hts : ∀ w ∈ lw_g, w.before args s = true := fun w hw => atoms_spec (ws := (.code y_St_isLatin1 b_St_isLatin1 1 (some .boolean) :: lw_g)) Bd.pre w (List.mem_cons_of_mem _ hw)
  have hown : s.vm.findClass R_St = some m.cls := findClass_of_methodNamed Bd.named
  have hlocks := Bd.notSynchronized
  have hK := hE.1
  have hH0 := hH
  have hLo : hLc G.size [] := hLc_nil
  have hz : s.heap.size ≤ s.heap.size := Nat.le_refl _
  have hkp : kp [] h h := kp_rf
  have hl := lv_entry [.ref (ak i)] (n := 1) (Nat.le_of_ble_eq_true rfl)
  rw [show entryFrame m args 1 = F0 m 0 ((lg_sl [.ref (ak i)] ++ List.replicate (1 - (lg_sl [.ref (ak i)]).length) Slot.unset).toArray) [] from (by rw [ha]; exact lg_entry_eq m [.ref (ak i)] 1)]
  generalize (lg_sl [.ref (ak i)] ++ List.replicate (1 - (lg_sl [.ref (ak i)]).length) Slot.unset).toArray = ls at hl ⊢
  have hl : lv_has ls 1 [(0, .ref (ak i))] := hl
  have hZ := K9 hE.2.2.2.2 hH0
  have hS := S9 hH0 hH hz hLo
  have hC := C9 hE.2.2.2.2 hH0
  have hS := S9 hH0 hH hz hLo
  refine va_gets (v := .int 1) hx hb hC hS hown (hts _ mw_70) (fun _ h9 => h9) d_St_isLatin1_0 ?_
  refine lv_if_eq (tgt := 17) hx hb d_St_isLatin1_3 (by decide) (fun hc1 => absurd hc1 (by decide)) (fun hc1 => ?_)
  refine lv_aload_n hx hb d_St_isLatin1_6 rfl (lv_at hl 0 rfl) ?_
  have hS := S9 hH0 hH hz hLo
  refine vk_getf (v := .int 0) hx hb (hZ.1 i hi).2.1 hS hown (hts _ mw_71) (fun _ h9 => h9) d_St_isLatin1_7 ?_
  refine lv_if_ne (tgt := 17) hx hb d_St_isLatin1_10 (by decide) (fun hc2 => absurd hc2 (by decide)) (fun hc2 => ?_)
  refine lv_iconst (v := 1) hx hb d_St_isLatin1_13 (by decide) ?_
  refine lv_goto (tgt := 18) hx hb d_St_isLatin1_14 (by decide) ?_
  exact W.zret (v := 1) hx hb hr (by decide) (fun t9 ht hW => ⟨1, h, rfl, ⟨rfl, rfl⟩, by rw [ht]; exact hH, by rw [ht]; exact hz⟩) hLo d_St_isLatin1_18

set_option maxHeartbeats 4000000 in
set_option maxRecDepth 100000 in
theorem c_St_length (l : Launch) (D : va_G) (t : Nat → ClassId) (G : Heap) (ak av : Nat → Nat) (h : hM) (i : Nat) (hi : i < 2) : Met l y_St_length (.code y_St_length b_St_length 1 (some .int) :: lw_g) { frames := 1, cells := 0, slots := 0, locals := 20 } (hP (kE D t G ak av) D vwCl G h [.ref (ak i)]) (hQi D vwCl G (fun r h' => r = nI (sLen.getD i 0) ∧ h = h')) 0 0 (fun q => G.size ≤ q) := by
  refine Met.ofW (cc := b_St_length) (maxL := 1) (ret := (some .int)) (by decide) rfl ?_
  intro p e s m args below meth c s₁ Bd hml hv
  obtain ⟨ha, hE, hH⟩ := hv
  have hx := Bd.exec
  have hb := Bd.bytes
  have hr := Bd.returns
  have hts : ∀ w ∈ lw_g, w.before args s = true := fun w hw => atoms_spec (ws := (.code y_St_length b_St_length 1 (some .int) :: lw_g)) Bd.pre w (List.mem_cons_of_mem _ hw)
  have hown : s.vm.findClass R_St = some m.cls := findClass_of_methodNamed Bd.named
  have hlocks := Bd.notSynchronized
  have hK := hE.1
  have hH0 := hH
  have hLo : hLc G.size [] := hLc_nil
  have hz : s.heap.size ≤ s.heap.size := Nat.le_refl _
  have hkp : kp [] h h := kp_rf
  have hl := lv_entry [.ref (ak i)] (n := 1) (Nat.le_of_ble_eq_true rfl)
  rw [show entryFrame m args 1 = F0 m 0 ((lg_sl [.ref (ak i)] ++ List.replicate (1 - (lg_sl [.ref (ak i)]).length) Slot.unset).toArray) [] from (by rw [ha]; exact lg_entry_eq m [.ref (ak i)] 1)]
  generalize (lg_sl [.ref (ak i)] ++ List.replicate (1 - (lg_sl [.ref (ak i)]).length) Slot.unset).toArray = ls at hl ⊢
  have hl : lv_has ls 1 [(0, .ref (ak i))] := hl
  have hZ := K9 hE.2.2.2.2 hH0
  have hS := S9 hH0 hH hz hLo
  refine lv_aload_n hx hb d_St_length_0 rfl (lv_at hl 0 rfl) ?_
  have hS := S9 hH0 hH hz hLo
  refine vk_getf (v := .ref (av i)) hx hb (hZ.1 i hi).2.2.1 hS hown (hts _ mw_72) (fun _ h9 => h9) d_St_length_1 ?_
  have hS := S9 hH0 hH hz hLo
  refine va_tlen (v := nI (sLen.getD i 0)) hx hb (hZ.1 i hi).2.2.2 hS rfl d_St_length_4 ?_
  refine lv_aload_n hx hb d_St_length_5 rfl (lv_at hl 0 rfl) ?_
  have hS := S9 hH0 hH hz hLo
  refine hm_calli (va_runV (As := []) (b := ak i) (rest := [.int (nI (sLen.getD i 0))]) ⟨hx, hb, hml, hown, hts⟩ (c_St_coder l D t G ak av h i hi) ⟨cw9B 0 hts mw_73 mw_75 mw_74 rfl rfl (by decide +kernel) ⟨Nat.le_of_ble_eq_true rfl, Nat.le_of_ble_eq_true rfl⟩, hts _ mw_76, hts _ mw_77⟩ (hP_W kE_ok hE hH (vk_recv hZ hi hS)) rfl rfl hl.1 rfl (lv_room (Nat.le_of_ble_eq_true rfl)) d_St_length_6 ⟨Nat.le_of_ble_eq_true rfl, Nat.le_of_ble_eq_true rfl⟩) hLo (fun r1 h2 H3 locs hp5 hH z4 hLo => ?_)
  have hz : s.heap.size ≤ H3.size := Nat.le_trans hz z4
  obtain ⟨rfl, rfl⟩ := hp5
  refine lv_ishr hx hb d_St_length_9 ?_
  refine lv_topi (fun v6 e7 => ?_)
  obtain rfl : v6 = nI (sLen.getD i 0) := e7.trans (sb_shr0 _)
  exact W.iret (v := nI (sLen.getD i 0)) hx hb hr (fun t9 ht hW => ⟨nI (sLen.getD i 0), h, rfl, ⟨rfl, rfl⟩, by rw [ht]; exact hH, by rw [ht]; exact hz⟩) hLo d_St_length_10

set_option maxHeartbeats 4000000 in
set_option maxRecDepth 100000 in
theorem c_Pr_check_n (l : Launch) (D : va_G) (t : Nat → ClassId) (G : Heap) (ak av : Nat → Nat) (h : hM) (a b2 : Nat) (hab : a < b2) (hb2 : b2 < 2 ^ 31) : Met l y_Pr_checkIndex (.code y_Pr_checkIndex b_Pr_checkIndex 3 (some .int) :: lw_g) { frames := 0, cells := 0, slots := 0, locals := 0 } (hP (kE D t G ak av) D vwCl G h [.int (nI a), .int (nI b2), .null]) (hQi D vwCl G (fun r h' => r = nI a ∧ h = h')) 0 0 (fun q => G.size ≤ q) := by
  refine Met.ofW (cc := b_Pr_checkIndex) (maxL := 3) (ret := (some .int)) (by decide) rfl ?_
  intro p e s m args below meth c s₁ Bd hml hv
  obtain ⟨ha, hE, hH⟩ := hv
  have hx := Bd.exec
  have hb := Bd.bytes
  have hr := Bd.returns
  have hts : ∀ w ∈ lw_g, w.before args s = true := fun w hw => atoms_spec (ws := (.code y_Pr_checkIndex b_Pr_checkIndex 3 (some .int) :: lw_g)) Bd.pre w (List.mem_cons_of_mem _ hw)
  have hown : s.vm.findClass R_Pr = some m.cls := findClass_of_methodNamed Bd.named
  have hlocks := Bd.notSynchronized
  have hK := hE.1
  have hH0 := hH
  have hLo : hLc G.size [] := hLc_nil
  have hz : s.heap.size ≤ s.heap.size := Nat.le_refl _
  have hkp : kp [] h h := kp_rf
  have hl := lv_entry [.int (nI a), .int (nI b2), .null] (n := 3) (Nat.le_of_ble_eq_true rfl)
  rw [show entryFrame m args 3 = F0 m 0 ((lg_sl [.int (nI a), .int (nI b2), .null] ++ List.replicate (3 - (lg_sl [.int (nI a), .int (nI b2), .null]).length) Slot.unset).toArray) [] from (by rw [ha]; exact lg_entry_eq m [.int (nI a), .int (nI b2), .null] 3)]
  generalize (lg_sl [.int (nI a), .int (nI b2), .null] ++ List.replicate (3 - (lg_sl [.int (nI a), .int (nI b2), .null]).length) Slot.unset).toArray = ls at hl ⊢
  have hl : lv_has ls 3 [(0, .int (nI a)), (1, .int (nI b2)), (2, .null)] := hl
  refine lv_iload_n hx hb d_Pr_checkIndex_0 rfl (lv_at hl 0 rfl) ?_
  refine lv_if_lt (tgt := 9) hx hb d_Pr_checkIndex_1 (by decide) (fun hc1 => absurd hc1 (nI_pos (by omega))) (fun hc1 => ?_)
  refine lv_iload_n hx hb d_Pr_checkIndex_4 rfl (lv_at hl 0 rfl) ?_
  refine lv_iload_n hx hb d_Pr_checkIndex_5 rfl (lv_at hl 1 rfl) ?_
  refine lv_icmp_lt (tgt := 16) hx hb d_Pr_checkIndex_6 (by decide) (fun hc2 => ?_) (fun hc2 => absurd (nI_lt hab hb2) hc2)
  refine lv_iload_n hx hb d_Pr_checkIndex_16 rfl (lv_at hl 0 rfl) ?_
  exact W.iret (v := nI a) hx hb hr (fun t9 ht hW => ⟨nI a, h, rfl, ⟨rfl, rfl⟩, by rw [ht]; exact hH, by rw [ht]; exact hz⟩) hLo d_Pr_checkIndex_17

set_option maxHeartbeats 4000000 in
set_option maxRecDepth 100000 in
theorem c_Pr_check_r (l : Launch) (D : va_G) (t : Nat → ClassId) (G : Heap) (ak av : Nat → Nat) (h : hM) (a b2 x : Nat) (hab : a < b2) (hb2 : b2 < 2 ^ 31) : Met l y_Pr_checkIndex (.code y_Pr_checkIndex b_Pr_checkIndex 3 (some .int) :: lw_g) { frames := 0, cells := 0, slots := 0, locals := 0 } (hP (kE D t G ak av) D vwCl G h [.int (nI a), .int (nI b2), .ref x]) (hQi D vwCl G (fun r h' => r = nI a ∧ h = h')) 0 0 (fun q => G.size ≤ q) := by
  refine Met.ofW (cc := b_Pr_checkIndex) (maxL := 3) (ret := (some .int)) (by decide) rfl ?_
  intro p e s m args below meth c s₁ Bd hml hv
  obtain ⟨ha, hE, hH⟩ := hv
  have hx := Bd.exec
  have hb := Bd.bytes
  have hr := Bd.returns
  have hts : ∀ w ∈ lw_g, w.before args s = true := fun w hw => atoms_spec (ws := (.code y_Pr_checkIndex b_Pr_checkIndex 3 (some .int) :: lw_g)) Bd.pre w (List.mem_cons_of_mem _ hw)
  have hown : s.vm.findClass R_Pr = some m.cls := findClass_of_methodNamed Bd.named
  have hlocks := Bd.notSynchronized
  have hK := hE.1
  have hH0 := hH
  have hLo : hLc G.size [] := hLc_nil
  have hz : s.heap.size ≤ s.heap.size := Nat.le_refl _
  have hkp : kp [] h h := kp_rf
  have hl := lv_entry [.int (nI a), .int (nI b2), .ref x] (n := 3) (Nat.le_of_ble_eq_true rfl)
  rw [show entryFrame m args 3 = F0 m 0 ((lg_sl [.int (nI a), .int (nI b2), .ref x] ++ List.replicate (3 - (lg_sl [.int (nI a), .int (nI b2), .ref x]).length) Slot.unset).toArray) [] from (by rw [ha]; exact lg_entry_eq m [.int (nI a), .int (nI b2), .ref x] 3)]
  generalize (lg_sl [.int (nI a), .int (nI b2), .ref x] ++ List.replicate (3 - (lg_sl [.int (nI a), .int (nI b2), .ref x]).length) Slot.unset).toArray = ls at hl ⊢
  have hl : lv_has ls 3 [(0, .int (nI a)), (1, .int (nI b2)), (2, .ref x)] := hl
  refine lv_iload_n hx hb d_Pr_checkIndex_0 rfl (lv_at hl 0 rfl) ?_
  refine lv_if_lt (tgt := 9) hx hb d_Pr_checkIndex_1 (by decide) (fun hc1 => absurd hc1 (nI_pos (by omega))) (fun hc1 => ?_)
  refine lv_iload_n hx hb d_Pr_checkIndex_4 rfl (lv_at hl 0 rfl) ?_
  refine lv_iload_n hx hb d_Pr_checkIndex_5 rfl (lv_at hl 1 rfl) ?_
  refine lv_icmp_lt (tgt := 16) hx hb d_Pr_checkIndex_6 (by decide) (fun hc2 => ?_) (fun hc2 => absurd (nI_lt hab hb2) hc2)
  refine lv_iload_n hx hb d_Pr_checkIndex_16 rfl (lv_at hl 0 rfl) ?_
  exact W.iret (v := nI a) hx hb hr (fun t9 ht hW => ⟨nI a, h, rfl, ⟨rfl, rfl⟩, by rw [ht]; exact hH, by rw [ht]; exact hz⟩) hLo d_Pr_checkIndex_17

set_option maxHeartbeats 4000000 in
set_option maxRecDepth 100000 in
theorem c_St_checkIndex (l : Launch) (D : va_G) (t : Nat → ClassId) (G : Heap) (ak av : Nat → Nat) (h : hM) (a b2 : Nat) (hab : a < b2) (hb2 : b2 < 2 ^ 31) : Met l y_St_checkIndex (.code y_St_checkIndex b_St_checkIndex 2 none :: lw_g) { frames := 1, cells := 0, slots := 0, locals := 22 } (hP (kE D t G ak av) D vwCl G h [.int (nI a), .int (nI b2)]) (hQv D vwCl G (fun h' => h = h')) 0 0 (fun q => G.size ≤ q) := by
  refine Met.ofW (cc := b_St_checkIndex) (maxL := 2) (ret := none) (by decide) rfl ?_
  intro p e s m args below meth c s₁ Bd hml hv
  obtain ⟨ha, hE, hH⟩ := hv
  have hx := Bd.exec
  have hb := Bd.bytes
  have hr := Bd.returns
  have hts : ∀ w ∈ lw_g, w.before args s = true := fun w hw => atoms_spec (ws := (.code y_St_checkIndex b_St_checkIndex 2 none :: lw_g)) Bd.pre w (List.mem_cons_of_mem _ hw)
  have hown : s.vm.findClass R_St = some m.cls := findClass_of_methodNamed Bd.named
  have hlocks := Bd.notSynchronized
  have hK := hE.1
  have hH0 := hH
  have hLo : hLc G.size [] := hLc_nil
  have hz : s.heap.size ≤ s.heap.size := Nat.le_refl _
  have hkp : kp [] h h := kp_rf
  have hl := lv_entry [.int (nI a), .int (nI b2)] (n := 2) (Nat.le_of_ble_eq_true rfl)
  rw [show entryFrame m args 2 = F0 m 0 ((lg_sl [.int (nI a), .int (nI b2)] ++ List.replicate (2 - (lg_sl [.int (nI a), .int (nI b2)]).length) Slot.unset).toArray) [] from (by rw [ha]; exact lg_entry_eq m [.int (nI a), .int (nI b2)] 2)]
  generalize (lg_sl [.int (nI a), .int (nI b2)] ++ List.replicate (2 - (lg_sl [.int (nI a), .int (nI b2)]).length) Slot.unset).toArray = ls at hl ⊢
  have hl : lv_has ls 2 [(0, .int (nI a)), (1, .int (nI b2))] := hl
  have hS := S9 hH0 hH hz hLo
  refine lv_iload_n hx hb d_St_checkIndex_0 rfl (lv_at hl 0 rfl) ?_
  refine lv_iload_n hx hb d_St_checkIndex_1 rfl (lv_at hl 1 rfl) ?_
  rcases Q9 hE.2.2.2.2 hH0 with hC | ⟨x, hC⟩
  · skip
    have hS := S9 hH0 hH hz hLo
    refine va_gets (v := .null) hx hb hC hS hown (hts _ mw_78) (fun _ h9 => h9) d_St_checkIndex_2 ?_
    refine hm_calli (va_runS (As := [.int (nI a), .int (nI b2), .null]) (rest := []) ⟨hx, hb, hml, hown, hts⟩ (c_Pr_check_n l D t G ak av h a b2 hab hb2) ⟨cw9B 3 hts mw_79 mw_81 mw_80 rfl rfl (by decide +kernel) ⟨Nat.le_of_ble_eq_true rfl, Nat.le_of_ble_eq_true rfl⟩, hts _ mw_82⟩ (hP_S kE_ok hE hH) rfl rfl hl.1 rfl (lv_room (Nat.le_of_ble_eq_true rfl)) d_St_checkIndex_5 ⟨Nat.le_of_ble_eq_true rfl, Nat.le_of_ble_eq_true rfl⟩) hLo (fun r1 h2 H3 locs hp5 hH z4 hLo => ?_)
    have hz : s.heap.size ≤ H3.size := Nat.le_trans hz z4
    obtain ⟨rfl, rfl⟩ := hp5
    refine lv_pop hx hb d_St_checkIndex_8 rfl ?_
    exact W.vret hx hb hr (fun t9 ht hW => ⟨h, rfl, rfl, by rw [ht]; exact hH, by rw [ht]; exact hz⟩) hLo d_St_checkIndex_9
  · skip
    have hS := S9 hH0 hH hz hLo
    refine va_gets (v := .ref x) hx hb hC hS hown (hts _ mw_78) (fun _ h9 => h9) d_St_checkIndex_2 ?_
    refine hm_calli (va_runS (As := [.int (nI a), .int (nI b2), .ref x]) (rest := []) ⟨hx, hb, hml, hown, hts⟩ (c_Pr_check_r l D t G ak av h a b2 x hab hb2) ⟨cw9B 3 hts mw_79 mw_81 mw_80 rfl rfl (by decide +kernel) ⟨Nat.le_of_ble_eq_true rfl, Nat.le_of_ble_eq_true rfl⟩, hts _ mw_82⟩ (hP_S kE_ok hE hH) rfl rfl hl.1 rfl (lv_room (Nat.le_of_ble_eq_true rfl)) d_St_checkIndex_5 ⟨Nat.le_of_ble_eq_true rfl, Nat.le_of_ble_eq_true rfl⟩) hLo (fun r6 h7 H8 locs hp10 hH z9 hLo => ?_)
    have hz : s.heap.size ≤ H8.size := Nat.le_trans hz z9
    obtain ⟨rfl, rfl⟩ := hp10
    refine lv_pop hx hb d_St_checkIndex_8 rfl ?_
    exact W.vret hx hb hr (fun t9 ht hW => ⟨h, rfl, rfl, by rw [ht]; exact hH, by rw [ht]; exact hz⟩) hLo d_St_checkIndex_9

set_option maxHeartbeats 4000000 in
set_option maxRecDepth 100000 in
theorem c_S1_charAt (l : Launch) (D : va_G) (t : Nat → ClassId) (G : Heap) (ak av : Nat → Nat) (h : hM) (i k : Nat) (hi : i < 2) (hk : k < sLen.getD i 0) : Met l y_S1_charAt (.code y_S1_charAt b_S1_charAt 2 (some .char) :: lw_g) { frames := 2, cells := 0, slots := 0, locals := 43 } (hP (kE D t G ak av) D vwCl G h [.ref (av i), .int (nI k)]) (hQi D vwCl G (fun r h' => narrow .char (.int r) = .int r ∧ h = h')) 0 0 (fun q => G.size ≤ q) := by
  refine Met.ofW (cc := b_S1_charAt) (maxL := 2) (ret := (some .char)) (by decide) rfl ?_
  intro p e s m args below meth c s₁ Bd hml hv
  obtain ⟨ha, hE, hH⟩ := hv
  have hx := Bd.exec
  have hb := Bd.bytes
  have hr := Bd.returns
  have hts : ∀ w ∈ lw_g, w.before args s = true := fun w hw => atoms_spec (ws := (.code y_S1_charAt b_S1_charAt 2 (some .char) :: lw_g)) Bd.pre w (List.mem_cons_of_mem _ hw)
  have hown : s.vm.findClass R_S1 = some m.cls := findClass_of_methodNamed Bd.named
  have hlocks := Bd.notSynchronized
  have hK := hE.1
  have hH0 := hH
  have hLo : hLc G.size [] := hLc_nil
  have hz : s.heap.size ≤ s.heap.size := Nat.le_refl _
  have hkp : kp [] h h := kp_rf
  have hl := lv_entry [.ref (av i), .int (nI k)] (n := 2) (Nat.le_of_ble_eq_true rfl)
  rw [show entryFrame m args 2 = F0 m 0 ((lg_sl [.ref (av i), .int (nI k)] ++ List.replicate (2 - (lg_sl [.ref (av i), .int (nI k)]).length) Slot.unset).toArray) [] from (by rw [ha]; exact lg_entry_eq m [.ref (av i), .int (nI k)] 2)]
  generalize (lg_sl [.ref (av i), .int (nI k)] ++ List.replicate (2 - (lg_sl [.ref (av i), .int (nI k)]).length) Slot.unset).toArray = ls at hl ⊢
  have hl : lv_has ls 2 [(0, .ref (av i)), (1, .int (nI k))] := hl
  have hZ := K9 hE.2.2.2.2 hH0
  have hS := S9 hH0 hH hz hLo
  refine lv_iload_n hx hb d_S1_charAt_0 rfl (lv_at hl 1 rfl) ?_
  refine lv_aload_n hx hb d_S1_charAt_1 rfl (lv_at hl 0 rfl) ?_
  have hS := S9 hH0 hH hz hLo
  refine va_tlen (v := nI (sLen.getD i 0)) hx hb (hZ.1 i hi).2.2.2 hS rfl d_S1_charAt_2 ?_
  refine hm_callv (va_runS (As := [.int (nI k), .int (nI (sLen.getD i 0))]) (rest := []) ⟨hx, hb, hml, hown, hts⟩ (c_St_checkIndex l D t G ak av h k (sLen.getD i 0) hk (sl_lt hi)) ⟨cw9B 2 hts mw_83 mw_84 mw_74 rfl rfl (by decide +kernel) ⟨Nat.le_of_ble_eq_true rfl, Nat.le_of_ble_eq_true rfl⟩, hts _ mw_85⟩ (hP_S kE_ok hE hH) rfl rfl hl.1 rfl (lv_room (Nat.le_of_ble_eq_true rfl)) d_S1_charAt_3 ⟨Nat.le_of_ble_eq_true rfl, Nat.le_of_ble_eq_true rfl⟩) hLo (fun h1 H2 locs hp4 hH z3 hLo => ?_)
  have hz : s.heap.size ≤ H2.size := Nat.le_trans hz z3
  obtain rfl := hp4
  refine lv_aload_n hx hb d_S1_charAt_6 rfl (lv_at hl 0 rfl) ?_
  refine lv_iload_n hx hb d_S1_charAt_7 rfl (lv_at hl 1 rfl) ?_
  have hS := S9 hH0 hH hz hLo
  refine va_tb (v := .int ((sByt.getD i []).getD k 0)) hx hb (hZ.1 i hi).2.2.2 hS (vp_in_nI hk (sl_lt hi)) (by rw [nI_clamp (Nat.lt_trans hk (sl_lt hi))]) d_S1_charAt_8 ?_
  refine lv_sipush (v := 255) hx hb d_S1_charAt_9 (by decide) ?_
  refine lv_iand hx hb d_S1_charAt_12 ?_
  refine lv_i2c (v := ((((sByt.getD i []).getD k 0) &&& 255).toUInt32 % 65536).toInt32) hx hb d_S1_charAt_13 rfl ?_
  exact W.zret (v := ((((sByt.getD i []).getD k 0) &&& 255).toUInt32 % 65536).toInt32) hx hb hr (pk_nc _) (fun t9 ht hW => ⟨((((sByt.getD i []).getD k 0) &&& 255).toUInt32 % 65536).toInt32, h, rfl, ⟨pk_nc _, rfl⟩, by rw [ht]; exact hH, by rw [ht]; exact hz⟩) hLo d_S1_charAt_14

set_option maxHeartbeats 4000000 in
set_option maxRecDepth 100000 in
theorem c_St_charAt (l : Launch) (D : va_G) (t : Nat → ClassId) (G : Heap) (ak av : Nat → Nat) (h : hM) (i k : Nat) (hi : i < 2) (hk : k < sLen.getD i 0) : Met l y_St_charAt (.code y_St_charAt b_St_charAt 2 (some .char) :: lw_g) { frames := 3, cells := 0, slots := 0, locals := 64 } (hP (kE D t G ak av) D vwCl G h [.ref (ak i), .int (nI k)]) (hQi D vwCl G (fun r h' => narrow .char (.int r) = .int r ∧ h = h')) 0 0 (fun q => G.size ≤ q) := by
  refine Met.ofW (cc := b_St_charAt) (maxL := 2) (ret := (some .char)) (by decide) rfl ?_
  intro p e s m args below meth c s₁ Bd hml hv
  obtain ⟨ha, hE, hH⟩ := hv
  have hx := Bd.exec
  have hb := Bd.bytes
  have hr := Bd.returns
  have hts : ∀ w ∈ lw_g, w.before args s = true := fun w hw => atoms_spec (ws := (.code y_St_charAt b_St_charAt 2 (some .char) :: lw_g)) Bd.pre w (List.mem_cons_of_mem _ hw)
  have hown : s.vm.findClass R_St = some m.cls := findClass_of_methodNamed Bd.named
  have hlocks := Bd.notSynchronized
  have hK := hE.1
  have hH0 := hH
  have hLo : hLc G.size [] := hLc_nil
  have hz : s.heap.size ≤ s.heap.size := Nat.le_refl _
  have hkp : kp [] h h := kp_rf
  have hl := lv_entry [.ref (ak i), .int (nI k)] (n := 2) (Nat.le_of_ble_eq_true rfl)
  rw [show entryFrame m args 2 = F0 m 0 ((lg_sl [.ref (ak i), .int (nI k)] ++ List.replicate (2 - (lg_sl [.ref (ak i), .int (nI k)]).length) Slot.unset).toArray) [] from (by rw [ha]; exact lg_entry_eq m [.ref (ak i), .int (nI k)] 2)]
  generalize (lg_sl [.ref (ak i), .int (nI k)] ++ List.replicate (2 - (lg_sl [.ref (ak i), .int (nI k)]).length) Slot.unset).toArray = ls at hl ⊢
  have hl : lv_has ls 2 [(0, .ref (ak i)), (1, .int (nI k))] := hl
  have hZ := K9 hE.2.2.2.2 hH0
  have hS := S9 hH0 hH hz hLo
  refine lv_aload_n hx hb d_St_charAt_0 rfl (lv_at hl 0 rfl) ?_
  have hS := S9 hH0 hH hz hLo
  refine hm_calli (va_runV (As := []) (b := ak i) (rest := []) ⟨hx, hb, hml, hown, hts⟩ (c_St_isLatin1 l D t G ak av h i hi) ⟨cw9B 0 hts mw_86 mw_87 mw_74 rfl rfl (by decide +kernel) ⟨Nat.le_of_ble_eq_true rfl, Nat.le_of_ble_eq_true rfl⟩, hts _ mw_88, hts _ mw_89⟩ (hP_W kE_ok hE hH (vk_recv hZ hi hS)) rfl rfl hl.1 rfl (lv_room (Nat.le_of_ble_eq_true rfl)) d_St_charAt_1 ⟨Nat.le_of_ble_eq_true rfl, Nat.le_of_ble_eq_true rfl⟩) hLo (fun r1 h2 H3 locs hp5 hH z4 hLo => ?_)
  have hz : s.heap.size ≤ H3.size := Nat.le_trans hz z4
  obtain ⟨rfl, rfl⟩ := hp5
  refine lv_if_eq (tgt := 16) hx hb d_St_charAt_4 (by decide) (fun hc6 => absurd hc6 (by decide)) (fun hc6 => ?_)
  refine lv_aload_n hx hb d_St_charAt_7 rfl (lv_at hl 0 rfl) ?_
  have hS := S9 hH0 hH hz hLo
  refine vk_getf (v := .ref (av i)) hx hb (hZ.1 i hi).2.2.1 hS hown (hts _ mw_72) (fun _ h9 => h9) d_St_charAt_8 ?_
  refine lv_iload_n hx hb d_St_charAt_11 rfl (lv_at hl 1 rfl) ?_
  refine hm_calli (va_runS (As := [.ref (av i), .int (nI k)]) (rest := []) ⟨hx, hb, hml, hown, hts⟩ (c_S1_charAt l D t G ak av h i k hi hk) ⟨cw9B 2 hts mw_90 mw_92 mw_91 rfl rfl (by decide +kernel) ⟨Nat.le_of_ble_eq_true rfl, Nat.le_of_ble_eq_true rfl⟩, hts _ mw_93⟩ (hP_S kE_ok hE hH) rfl rfl hl.1 rfl (lv_room (Nat.le_of_ble_eq_true rfl)) d_St_charAt_12 ⟨Nat.le_of_ble_eq_true rfl, Nat.le_of_ble_eq_true rfl⟩) hLo (fun r7 h8 H9 locs hp11 hH z10 hLo => ?_)
  have hz : s.heap.size ≤ H9.size := Nat.le_trans hz z10
  obtain ⟨hn9, rfl⟩ := hp11
  exact W.zret (v := r7) hx hb hr hn9 (fun t9 ht hW => ⟨r7, h, rfl, ⟨hn9, rfl⟩, by rw [ht]; exact hH, by rw [ht]; exact hz⟩) hLo d_St_charAt_15

set_option maxHeartbeats 4000000 in
set_option maxRecDepth 100000 in
theorem c_Ar_fill (l : Launch) (D : va_G) (t : Nat → ClassId) (G : Heap) (ak av : Nat → Nat) (h : hM) (pb n : Nat) (hpb : pgF t h pb n) (hn : n < 2 ^ 31) : Met l y_Ar_fill (.code y_Ar_fill b_Ar_fill 4 none :: lw_g) { frames := 0, cells := 0, slots := 0, locals := 0 } (hP (kE D t G ak av) D vwCl G h [.ref pb, .int 0]) (hQv D vwCl G (fun h' => kp [pb] h h' ∧ pgF t h' pb n)) 0 0 (fun q => G.size ≤ q) := by
  refine Met.ofW (cc := b_Ar_fill) (maxL := 4) (ret := none) (by decide) rfl ?_
  intro p e s m args below meth c s₁ Bd hml hv
  obtain ⟨ha, hE, hH⟩ := hv
  have hx := Bd.exec
  have hb := Bd.bytes
  have hr := Bd.returns
  have hts : ∀ w ∈ lw_g, w.before args s = true := fun w hw => atoms_spec (ws := (.code y_Ar_fill b_Ar_fill 4 none :: lw_g)) Bd.pre w (List.mem_cons_of_mem _ hw)
  have hown : s.vm.findClass R_Ar = some m.cls := findClass_of_methodNamed Bd.named
  have hlocks := Bd.notSynchronized
  have hK := hE.1
  have hH0 := hH
  have hLo : hLc G.size [] := hLc_nil
  have hz : s.heap.size ≤ s.heap.size := Nat.le_refl _
  have hkp : kp [pb] h h := kp_rf
  have hl := lv_entry [.ref pb, .int 0] (n := 4) (Nat.le_of_ble_eq_true rfl)
  rw [show entryFrame m args 4 = F0 m 0 ((lg_sl [.ref pb, .int 0] ++ List.replicate (4 - (lg_sl [.ref pb, .int 0]).length) Slot.unset).toArray) [] from (by rw [ha]; exact lg_entry_eq m [.ref pb, .int 0] 4)]
  generalize (lg_sl [.ref pb, .int 0] ++ List.replicate (4 - (lg_sl [.ref pb, .int 0]).length) Slot.unset).toArray = ls at hl ⊢
  have hl : lv_has ls 4 [(0, .ref pb), (1, .int 0)] := hl
  obtain ⟨f, hfit, f_pb⟩ := hpb
  refine lv_iconst (v := 0) hx hb d_Ar_fill_0 (by decide) ?_
  refine lv_topi (fun v1 e2 => ?_)
  obtain rfl : v1 = nI 0 := e2.trans (nI_0.symm)
  refine lv_istore_n (lv' := [(2, .int (nI 0)), (0, .ref pb), (1, .int 0)]) hx hb d_Ar_fill_1 rfl hl (by decide) rfl (fun ls hl => ?_)
  refine lv_aload_n hx hb d_Ar_fill_2 rfl (lv_at hl 1 rfl) ?_
  refine hm_alen (v := nI n) hx hb hK hH 0 f_pb (ty := .byte) rfl rfl d_Ar_fill_3 ?_
  refine lv_istore_n (lv' := [(3, .int (nI n)), (2, .int (nI 0)), (0, .ref pb), (1, .int 0)]) hx hb d_Ar_fill_4 rfl hl (by decide) rfl (fun ls hl => ?_)
  refine hm_loop (fun k ls H locs hh => ∃ (j : Nat), k = n - j ∧ lv_has ls 4 [(2, .int (nI j)), (0, .ref pb), (1, .int 0), (3, .int (nI n))] ∧ hm D vwCl G hh H ∧ s.heap.size ≤ H.size ∧ hLc G.size locs ∧ kp [pb] h hh ∧ (pgF t hh pb n) ∧ (j ≤ n)) ?_ (hh := h) ⟨0, rfl, (lv_sub hl [1, 2, 3, 0] rfl), hH, hz, hLo, hkp, ⟨f, hfit, f_pb⟩, by omega⟩
  rintro k ls H locs hh ⟨j, hk, hl, hH, hz, hLo, hkp, hpb, hj⟩ ih
  obtain ⟨f, hfit, f_pb⟩ := hpb
  refine lv_iload_n hx hb d_Ar_fill_5 rfl (lv_at hl 0 rfl) ?_
  refine lv_iload_n hx hb d_Ar_fill_6 rfl (lv_at hl 3 rfl) ?_
  refine lv_icmp_ge (tgt := 20) hx hb d_Ar_fill_7 (by decide) (fun hc3 => ?_) (fun hc3 => ?_)
  · skip
    exact W.vret hx hb hr (fun t9 ht hW => ⟨hh, rfl, ⟨hkp, f, hfit, f_pb⟩, by rw [ht]; exact hH, by rw [ht]; exact hz⟩) hLo d_Ar_fill_20
  · skip
    have hin : j < n := by
      have h8 := mt (nI_leI hn (by omega)).mpr hc3
      omega
    refine lv_aload_n hx hb d_Ar_fill_10 rfl (lv_at hl 1 rfl) ?_
    refine lv_iload_n hx hb d_Ar_fill_11 rfl (lv_at hl 0 rfl) ?_
    refine lv_iload_n hx hb d_Ar_fill_12 rfl (lv_at hl 2 rfl) ?_
    refine hj_bast hx hb hK hH hLo 0 f_pb rfl j rfl hin hn d_Ar_fill_13 (fun H4 locs hH z5 hLo => ?_)
    have hz : s.heap.size ≤ H4.size := by rw [z5]; exact hz
    obtain ⟨h6, e7⟩ : ∃ z, z = hu hh pb (.inl ((t 0), n, .inl (upd f j (vp_nar .byte 0)))) := ⟨_, rfl⟩
    have hH : hm D vwCl G h6 H4 := by rw [e7]; exact hH
    have f_pb : h6 pb = some (.inl ((t 0), n, .inl (upd f j (vp_nar .byte 0)))) := by rw [e7]; exact hu_s _ _ _
    have hkp : kp [pb] h h6 := by rw [e7]; exact kp_put hkp (by simp)
    refine lv_iinc (v := nI (j + 1)) (lv' := [(2, .int (nI (j + 1))), (0, .ref pb), (1, .int 0), (3, .int (nI n))]) hx hb d_Ar_fill_14 hl (k := 0) rfl (nI_1 j) (by decide) rfl (fun ls hl => ?_)
    refine lv_goto (tgt := 5) hx hb d_Ar_fill_17 (by decide) ?_
    exact ih (n - (j + 1)) ls _ locs _ (by rw [hk]; omega) ⟨(j + 1), rfl, (lv_sub hl [0, 1, 2, 3] rfl), hH, hz, hLo, hkp, ⟨_, sb_fitU hfit (fitNar _), f_pb⟩, by omega⟩

set_option maxHeartbeats 4000000 in
set_option maxRecDepth 100000 in
theorem c_Page_clear (l : Launch) (D : va_G) (t : Nat → ClassId) (G : Heap) (ak av : Nat → Nat) (h : hM) (h0 pb n : Nat) (f_h0 : h h0 = some (.inr (3, [.ref pb]))) (hpb : pgF t h pb n) (hn : n < 2 ^ 31) : Met l y_Pg_clear (.code y_Pg_clear b_Pg_clear 1 none :: lw_g) { frames := 1, cells := 0, slots := 0, locals := 23 } (hP (kE D t G ak av) D vwCl G h [.ref h0]) (hQv D vwCl G (fun h' => kp [pb] h h' ∧ pgF t h' pb n)) 0 0 (fun q => G.size ≤ q) := by
  refine Met.ofW (cc := b_Pg_clear) (maxL := 1) (ret := none) (by decide) rfl ?_
  intro p e s m args below meth c s₁ Bd hml hv
  obtain ⟨ha, hE, hH⟩ := hv
  have hx := Bd.exec
  have hb := Bd.bytes
  have hr := Bd.returns
  have hts : ∀ w ∈ lw_g, w.before args s = true := fun w hw => atoms_spec (ws := (.code y_Pg_clear b_Pg_clear 1 none :: lw_g)) Bd.pre w (List.mem_cons_of_mem _ hw)
  have hown : s.vm.findClass R_Pg = some m.cls := findClass_of_methodNamed Bd.named
  have hlocks := Bd.notSynchronized
  have hK := hE.1
  have hH0 := hH
  have hLo : hLc G.size [] := hLc_nil
  have hz : s.heap.size ≤ s.heap.size := Nat.le_refl _
  have hkp : kp [pb] h h := kp_rf
  have hl := lv_entry [.ref h0] (n := 1) (Nat.le_of_ble_eq_true rfl)
  rw [show entryFrame m args 1 = F0 m 0 ((lg_sl [.ref h0] ++ List.replicate (1 - (lg_sl [.ref h0]).length) Slot.unset).toArray) [] from (by rw [ha]; exact lg_entry_eq m [.ref h0] 1)]
  generalize (lg_sl [.ref h0] ++ List.replicate (1 - (lg_sl [.ref h0]).length) Slot.unset).toArray = ls at hl ⊢
  have hl : lv_has ls 1 [(0, .ref h0)] := hl
  obtain ⟨f, hfit, f_pb⟩ := hpb
  refine lv_aload_n hx hb d_Pg_clear_0 rfl (lv_at hl 0 rfl) ?_
  refine hm_get (ci := 3) (v := .ref pb) (C := R_Pg) (T := F_Pg) (N := 1) hx hb hts ig_Pg hown hK hH f_h0 rfl 0 (by decide) (hts _ mw_24) (fun _ h9 => h9) rfl d_Pg_clear_1 ?_
  refine lv_iconst (v := 0) hx hb d_Pg_clear_4 (by decide) ?_
  refine hm_callv (va_runS (As := [.ref pb, .int 0]) (rest := []) ⟨hx, hb, hml, hown, hts⟩ (c_Ar_fill l D t G ak av h pb n ⟨f, hfit, f_pb⟩ hn) ⟨cw9B 2 hts mw_94 mw_96 mw_95 rfl rfl (by decide +kernel) ⟨Nat.le_of_ble_eq_true rfl, Nat.le_of_ble_eq_true rfl⟩, hts _ mw_97⟩ (hP_S kE_ok hE hH) rfl rfl hl.1 rfl (lv_room (Nat.le_of_ble_eq_true rfl)) d_Pg_clear_5 ⟨Nat.le_of_ble_eq_true rfl, Nat.le_of_ble_eq_true rfl⟩) hLo (fun h1 H2 locs hp4 hH z3 hLo => ?_)
  have hz : s.heap.size ≤ H2.size := Nat.le_trans hz z3
  obtain ⟨hk9, f, hfit, f_pb2⟩ := hp4
  have f_h0 : h1 h0 = some (.inr (3, [.ref pb])) := kp_at hk9 f_h0 (nmc (Ne.symm (h_neA f_pb f_h0)) nm0)
  have hkp : kp [pb] h h1 := kp_tr2 hkp hk9 (List.forall_mem_cons.mpr ⟨Or.inl (by simp), List.forall_mem_nil _⟩)
  have f_pb : h1 pb = some (.inl ((t 0), n, .inl f)) := f_pb2
  exact W.vret hx hb hr (fun t9 ht hW => ⟨h1, rfl, ⟨hkp, f, hfit, f_pb⟩, by rw [ht]; exact hH, by rw [ht]; exact hz⟩) hLo d_Pg_clear_8

set_option maxHeartbeats 4000000 in
set_option maxRecDepth 100000 in
theorem c_Page_putText (l : Launch) (D : va_G) (t : Nat → ClassId) (G : Heap) (ak av : Nat → Nat) (h : hM) (h0 pb n i : Nat) (at_ : Int32) (f_h0 : h h0 = some (.inr (3, [.ref pb]))) (hpb : pgF t h pb n) (hn : n < 2 ^ 31) (hi : i < 2) : Met l y_Pg_putText (.code y_Pg_putText b_Pg_putText 4 none :: lw_g) { frames := 4, cells := 0, slots := 0, locals := 85 } (hP (kE D t G ak av) D vwCl G h [.ref h0, .int at_, .ref (ak i)]) (hQv D vwCl G (fun h' => kp [pb] h h' ∧ pgF t h' pb n)) 0 0 (fun q => G.size ≤ q) := by
  refine Met.ofW (cc := b_Pg_putText) (maxL := 4) (ret := none) (by decide) rfl ?_
  intro p e s m args below meth c s₁ Bd hml hv
  obtain ⟨ha, hE, hH⟩ := hv
  have hx := Bd.exec
  have hb := Bd.bytes
  have hr := Bd.returns
  have hts : ∀ w ∈ lw_g, w.before args s = true := fun w hw => atoms_spec (ws := (.code y_Pg_putText b_Pg_putText 4 none :: lw_g)) Bd.pre w (List.mem_cons_of_mem _ hw)
  have hown : s.vm.findClass R_Pg = some m.cls := findClass_of_methodNamed Bd.named
  have hlocks := Bd.notSynchronized
  have hK := hE.1
  have hH0 := hH
  have hLo : hLc G.size [] := hLc_nil
  have hz : s.heap.size ≤ s.heap.size := Nat.le_refl _
  have hkp : kp [pb] h h := kp_rf
  have hl := lv_entry [.ref h0, .int at_, .ref (ak i)] (n := 4) (Nat.le_of_ble_eq_true rfl)
  rw [show entryFrame m args 4 = F0 m 0 ((lg_sl [.ref h0, .int at_, .ref (ak i)] ++ List.replicate (4 - (lg_sl [.ref h0, .int at_, .ref (ak i)]).length) Slot.unset).toArray) [] from (by rw [ha]; exact lg_entry_eq m [.ref h0, .int at_, .ref (ak i)] 4)]
  generalize (lg_sl [.ref h0, .int at_, .ref (ak i)] ++ List.replicate (4 - (lg_sl [.ref h0, .int at_, .ref (ak i)]).length) Slot.unset).toArray = ls at hl ⊢
  have hl : lv_has ls 4 [(0, .ref h0), (1, .int at_), (2, .ref (ak i))] := hl
  obtain ⟨f, hfit, f_pb⟩ := hpb
  have hZ := K9 hE.2.2.2.2 hH0
  refine lv_iconst (v := 0) hx hb d_Pg_putText_0 (by decide) ?_
  refine lv_topi (fun v1 e2 => ?_)
  obtain rfl : v1 = nI 0 := e2.trans (nI_0.symm)
  refine lv_istore_n (lv' := [(3, .int (nI 0)), (0, .ref h0), (1, .int at_), (2, .ref (ak i))]) hx hb d_Pg_putText_1 rfl hl (by decide) rfl (fun ls hl => ?_)
  refine hm_loop (fun k ls H locs hh => ∃ (j : Nat), k = sLen.getD i 0 - j ∧ lv_has ls 4 [(3, .int (nI j)), (0, .ref h0), (1, .int at_), (2, .ref (ak i))] ∧ hm D vwCl G hh H ∧ s.heap.size ≤ H.size ∧ hLc G.size locs ∧ kp [pb] h hh ∧ hh h0 = some (.inr (3, [.ref pb])) ∧ (pgF t hh pb n) ∧ (j ≤ sLen.getD i 0)) ?_ (hh := h) ⟨0, rfl, (lv_sub hl [0, 1, 2, 3] rfl), hH, hz, hLo, hkp, f_h0, ⟨f, hfit, f_pb⟩, by omega⟩
  rintro k ls H locs hh ⟨j, hk, hl, hH, hz, hLo, hkp, f_h0, hpb, hj⟩ ih
  obtain ⟨f, hfit, f_pb⟩ := hpb
  have hS := S9 hH0 hH hz hLo
  refine lv_iload_n hx hb d_Pg_putText_2 rfl (lv_at hl 0 rfl) ?_
  refine lv_aload_n hx hb d_Pg_putText_3 rfl (lv_at hl 3 rfl) ?_
  have hS := S9 hH0 hH hz hLo
  refine hm_calli (va_runV (As := []) (b := ak i) (rest := [.int (nI j)]) ⟨hx, hb, hml, hown, hts⟩ (c_St_length l D t G ak av hh i hi) ⟨cw9B 0 hts mw_98 mw_99 mw_74 rfl rfl (by decide +kernel) ⟨Nat.le_of_ble_eq_true rfl, Nat.le_of_ble_eq_true rfl⟩, hts _ mw_100, hts _ mw_101⟩ (hP_W kE_ok hE hH (vk_recv hZ hi hS)) rfl rfl hl.1 rfl (lv_room (Nat.le_of_ble_eq_true rfl)) d_Pg_putText_4 ⟨Nat.le_of_ble_eq_true rfl, Nat.le_of_ble_eq_true rfl⟩) hLo (fun r3 h4 H5 locs hp7 hH z6 hLo => ?_)
  have hz : s.heap.size ≤ H5.size := Nat.le_trans hz z6
  obtain ⟨rfl, rfl⟩ := hp7
  refine lv_icmp_ge (tgt := 28) hx hb d_Pg_putText_7 (by decide) (fun hc8 => ?_) (fun hc8 => ?_)
  · skip
    exact W.vret hx hb hr (fun t9 ht hW => ⟨hh, rfl, ⟨hkp, f, hfit, f_pb⟩, by rw [ht]; exact hH, by rw [ht]; exact hz⟩) hLo d_Pg_putText_28
  · skip
    have hin : j < sLen.getD i 0 := by
      have h8 := mt (nI_leI (sl_lt hi) (Nat.lt_of_le_of_lt hj (sl_lt hi))).mpr hc8
      omega
    refine lv_aload_n hx hb d_Pg_putText_10 rfl (lv_at hl 1 rfl) ?_
    refine lv_iload_n hx hb d_Pg_putText_11 rfl (lv_at hl 2 rfl) ?_
    refine lv_iload_n hx hb d_Pg_putText_12 rfl (lv_at hl 0 rfl) ?_
    refine lv_iadd hx hb d_Pg_putText_13 ?_
    refine lv_aload_n hx hb d_Pg_putText_14 rfl (lv_at hl 3 rfl) ?_
    refine lv_iload_n hx hb d_Pg_putText_15 rfl (lv_at hl 0 rfl) ?_
    have hS := S9 hH0 hH hz hLo
    refine hm_calli (va_runV (As := [.int (nI j)]) (b := ak i) (rest := [.int (at_ + (nI j)), .ref h0]) ⟨hx, hb, hml, hown, hts⟩ (c_St_charAt l D t G ak av hh i j hi hin) ⟨cw9B 1 hts mw_102 mw_103 mw_74 rfl rfl (by decide +kernel) ⟨Nat.le_of_ble_eq_true rfl, Nat.le_of_ble_eq_true rfl⟩, hts _ mw_104, hts _ mw_105⟩ (hP_W kE_ok hE hH (vk_recv hZ hi hS)) rfl rfl hl.1 rfl (lv_room (Nat.le_of_ble_eq_true rfl)) d_Pg_putText_16 ⟨Nat.le_of_ble_eq_true rfl, Nat.le_of_ble_eq_true rfl⟩) hLo (fun r9 h10 H11 locs hp13 hH z12 hLo => ?_)
    have hz : s.heap.size ≤ H11.size := Nat.le_trans hz z12
    obtain ⟨hn9, rfl⟩ := hp13
    refine hm_callv (va_runV (As := [.int (at_ + (nI j)), .int r9]) (b := h0) (rest := []) ⟨hx, hb, hml, hown, hts⟩ (c_Page_put l D t G ak av hh h0 pb n (at_ + (nI j)) r9 f_h0 ⟨f, hfit, f_pb⟩ hn) ⟨cw9B 2 hts mw_66 mw_67 mw_52 rfl rfl (by decide +kernel) ⟨Nat.le_of_ble_eq_true rfl, Nat.le_of_ble_eq_true rfl⟩, hts _ mw_68, hts _ mw_69⟩ (hP_V (q := (R_Pg, F_Pg, 1)) kE_ok hE hK hH f_h0 rfl) rfl rfl hl.1 rfl (lv_room (Nat.le_of_ble_eq_true rfl)) d_Pg_putText_19 ⟨Nat.le_of_ble_eq_true rfl, Nat.le_of_ble_eq_true rfl⟩) hLo (fun h14 H15 locs hp17 hH z16 hLo => ?_)
    have hz : s.heap.size ≤ H15.size := Nat.le_trans hz z16
    obtain ⟨hk9, f, hfit, f_pb2⟩ := hp17
    have f_h0 : h14 h0 = some (.inr (3, [.ref pb])) := kp_at hk9 f_h0 (nmc (Ne.symm (h_neA f_pb f_h0)) nm0)
    have hkp : kp [pb] h h14 := kp_tr2 hkp hk9 (List.forall_mem_cons.mpr ⟨Or.inl (by simp), List.forall_mem_nil _⟩)
    have f_pb : h14 pb = some (.inl ((t 0), n, .inl f)) := f_pb2
    refine lv_iinc (v := nI (j + 1)) (lv' := [(3, .int (nI (j + 1))), (0, .ref h0), (1, .int at_), (2, .ref (ak i))]) hx hb d_Pg_putText_22 hl (k := 0) rfl (nI_1 j) (by decide) rfl (fun ls hl => ?_)
    refine lv_goto (tgt := 2) hx hb d_Pg_putText_25 (by decide) ?_
    exact ih (sLen.getD i 0 - (j + 1)) ls _ locs _ (by rw [hk]; omega) ⟨(j + 1), rfl, (lv_sub hl [0, 1, 2, 3] rfl), hH, hz, hLo, hkp, f_h0, ⟨f, hfit, f_pb⟩, by omega⟩
end
section
set_option maxRecDepth 100000 in
theorem mw_106 : Cond.code y_No_identifierLength b_No_identifierLength 1 (some .int) ∈ lw_g := lw_gin (List.mem_append_right _ (List.mem_of_getElem? (i := 467) rfl)) (by decide +kernel)
set_option maxRecDepth 100000 in
theorem mw_107 : Cond.methodLink R_Pg 124 y_No_identifierLength ∈ lw_g := lw_gin (List.mem_append_right _ (List.mem_of_getElem? (i := 549) rfl)) (by decide +kernel)
set_option maxRecDepth 100000 in
theorem mw_108 : Cond.instanceMethod y_No_identifierLength ∈ lw_g := lw_gin (List.mem_append_right _ (List.mem_of_getElem? (i := 465) rfl)) (by decide +kernel)
set_option maxRecDepth 100000 in
theorem mw_109 : Cond.selects R_No y_No_identifierLength y_No_identifierLength ∈ lw_g := lw_gin (List.mem_append_right _ (List.mem_of_getElem? (i := 466) rfl)) (by decide +kernel)
set_option maxRecDepth 100000 in
theorem mw_110 : Cond.fieldLink R_Pg 70 "WriteOnceDisc$Node" "parent" "LWriteOnceDisc$Node;" ∈ lw_g := lw_gin (List.mem_append_right _ (List.mem_of_getElem? (i := 97) rfl)) (by decide +kernel)
set_option maxRecDepth 100000 in
theorem mw_111 : Cond.fieldLink R_Pg 114 "WriteOnceDisc$Node" "sector" "I" ∈ lw_g := lw_gin (List.mem_append_right _ (List.mem_of_getElem? (i := 127) rfl)) (by decide +kernel)
set_option maxRecDepth 100000 in
theorem mw_112 : Cond.code y_Pg_putHigh b_Pg_putHigh 5 none ∈ lw_g := lw_gin (List.mem_append_right _ (List.mem_of_getElem? (i := 544) rfl)) (by decide +kernel)
set_option maxRecDepth 100000 in
theorem mw_113 : Cond.methodLink R_Pg 63 y_Pg_putHigh ∈ lw_g := lw_gin (List.mem_append_right _ (List.mem_of_getElem? (i := 541) rfl)) (by decide +kernel)
set_option maxRecDepth 100000 in
theorem mw_114 : Cond.instanceMethod y_Pg_putHigh ∈ lw_g := lw_gin (List.mem_append_right _ (List.mem_of_getElem? (i := 542) rfl)) (by decide +kernel)
set_option maxRecDepth 100000 in
theorem mw_115 : Cond.selects R_Pg y_Pg_putHigh y_Pg_putHigh ∈ lw_g := lw_gin (List.mem_append_right _ (List.mem_of_getElem? (i := 543) rfl)) (by decide +kernel)
set_option maxRecDepth 100000 in
theorem mw_116 : Cond.code y_Pg_putIdentifier b_Pg_putIdentifier 4 none ∈ lw_g := lw_gin (List.mem_append_right _ (List.mem_of_getElem? (i := 548) rfl)) (by decide +kernel)
set_option maxRecDepth 100000 in
theorem mw_117 : Cond.methodLink R_Pg 117 y_Pg_putIdentifier ∈ lw_g := lw_gin (List.mem_append_right _ (List.mem_of_getElem? (i := 545) rfl)) (by decide +kernel)
set_option maxRecDepth 100000 in
theorem mw_118 : Cond.instanceMethod y_Pg_putIdentifier ∈ lw_g := lw_gin (List.mem_append_right _ (List.mem_of_getElem? (i := 547) rfl)) (by decide +kernel)
set_option maxRecDepth 100000 in
theorem mw_119 : Cond.selects R_Pg y_Pg_putIdentifier y_Pg_putIdentifier ∈ lw_g := lw_gin (List.mem_append_left _ (List.mem_of_getElem? (i := 7) rfl)) (by decide +kernel)
set_option maxRecDepth 100000 in
theorem mw_120 : Cond.code y_Di_evened b_Di_evened 1 (some .int) ∈ lw_g := lw_gin (List.mem_append_right _ (List.mem_of_getElem? (i := 553) rfl)) (by decide +kernel)
set_option maxRecDepth 100000 in
theorem mw_121 : Cond.initialized R_Di ∈ lw_g := lw_gin (List.mem_append_right _ (List.mem_of_getElem? (i := 1) rfl)) (by decide +kernel)
set_option maxRecDepth 100000 in
theorem mw_122 : Cond.static y_Di_evened ∈ lw_g := lw_gin (List.mem_append_right _ (List.mem_of_getElem? (i := 552) rfl)) (by decide +kernel)
set_option maxRecDepth 100000 in
theorem mw_123 : Cond.code y_Pg_putLow b_Pg_putLow 5 none ∈ lw_g := lw_gin (List.mem_append_right _ (List.mem_of_getElem? (i := 540) rfl)) (by decide +kernel)
set_option maxRecDepth 100000 in
theorem mw_124 : Cond.methodLink R_Pg 46 y_Pg_putLow ∈ lw_g := lw_gin (List.mem_append_right _ (List.mem_of_getElem? (i := 537) rfl)) (by decide +kernel)
set_option maxRecDepth 100000 in
theorem mw_125 : Cond.instanceMethod y_Pg_putLow ∈ lw_g := lw_gin (List.mem_append_right _ (List.mem_of_getElem? (i := 538) rfl)) (by decide +kernel)
set_option maxRecDepth 100000 in
theorem mw_126 : Cond.selects R_Pg y_Pg_putLow y_Pg_putLow ∈ lw_g := lw_gin (List.mem_append_right _ (List.mem_of_getElem? (i := 539) rfl)) (by decide +kernel)
set_option maxRecDepth 100000 in
theorem mw_127 : Cond.code y_Pg_putBoth b_Pg_putBoth 5 none ∈ lw_g := lw_gin (List.mem_append_right _ (List.mem_of_getElem? (i := 572) rfl)) (by decide +kernel)
set_option maxRecDepth 100000 in
theorem mw_128 : Cond.methodLink R_Pg 60 y_Pg_putBoth ∈ lw_g := lw_gin (List.mem_append_right _ (List.mem_of_getElem? (i := 569) rfl)) (by decide +kernel)
set_option maxRecDepth 100000 in
theorem mw_129 : Cond.instanceMethod y_Pg_putBoth ∈ lw_g := lw_gin (List.mem_append_right _ (List.mem_of_getElem? (i := 570) rfl)) (by decide +kernel)
set_option maxRecDepth 100000 in
theorem mw_130 : Cond.selects R_Pg y_Pg_putBoth y_Pg_putBoth ∈ lw_g := lw_gin (List.mem_append_right _ (List.mem_of_getElem? (i := 571) rfl)) (by decide +kernel)
set_option maxRecDepth 100000 in
theorem mw_131 : Cond.fieldLink R_Pg 101 "WriteOnceDisc$Node" "isDirectory" "Z" ∈ lw_g := lw_gin (List.mem_append_right _ (List.mem_of_getElem? (i := 103) rfl)) (by decide +kernel)
set_option maxRecDepth 100000 in
theorem mw_132 : Cond.code y_Pg_clear b_Pg_clear 1 none ∈ lw_g := lw_gin (List.mem_append_right _ (List.mem_of_getElem? (i := 403) rfl)) (by decide +kernel)
set_option maxRecDepth 100000 in
theorem mw_133 : Cond.methodLink R_Pg 35 y_Pg_clear ∈ lw_g := lw_gin (List.mem_append_right _ (List.mem_of_getElem? (i := 400) rfl)) (by decide +kernel)
set_option maxRecDepth 100000 in
theorem mw_134 : Cond.instanceMethod y_Pg_clear ∈ lw_g := lw_gin (List.mem_append_right _ (List.mem_of_getElem? (i := 401) rfl)) (by decide +kernel)
set_option maxRecDepth 100000 in
theorem mw_135 : Cond.selects R_Pg y_Pg_clear y_Pg_clear ∈ lw_g := lw_gin (List.mem_append_right _ (List.mem_of_getElem? (i := 402) rfl)) (by decide +kernel)
set_option maxRecDepth 100000 in
theorem mw_136 : Cond.code y_Pg_putText b_Pg_putText 4 none ∈ lw_g := lw_gin (List.mem_append_right _ (List.mem_of_getElem? (i := 566) rfl)) (by decide +kernel)
set_option maxRecDepth 100000 in
theorem mw_137 : Cond.methodLink R_Pg 40 y_Pg_putText ∈ lw_g := lw_gin (List.mem_append_right _ (List.mem_of_getElem? (i := 563) rfl)) (by decide +kernel)
set_option maxRecDepth 100000 in
theorem mw_138 : Cond.instanceMethod y_Pg_putText ∈ lw_g := lw_gin (List.mem_append_right _ (List.mem_of_getElem? (i := 564) rfl)) (by decide +kernel)
set_option maxRecDepth 100000 in
theorem mw_139 : Cond.selects R_Pg y_Pg_putText y_Pg_putText ∈ lw_g := lw_gin (List.mem_append_right _ (List.mem_of_getElem? (i := 565) rfl)) (by decide +kernel)
set_option maxRecDepth 100000 in
theorem mw_140 : Cond.code y_Pg_fillWithStandard b_Pg_fillWithStandard 2 none ∈ lw_g := lw_gin (List.mem_append_right _ (List.mem_of_getElem? (i := 561) rfl)) (by decide +kernel)
set_option maxRecDepth 100000 in
theorem mw_141 : Cond.methodLink R_Pg 50 y_Pg_fillWithStandard ∈ lw_g := lw_gin (List.mem_append_right _ (List.mem_of_getElem? (i := 558) rfl)) (by decide +kernel)
set_option maxRecDepth 100000 in
theorem mw_142 : Cond.instanceMethod y_Pg_fillWithStandard ∈ lw_g := lw_gin (List.mem_append_right _ (List.mem_of_getElem? (i := 559) rfl)) (by decide +kernel)
set_option maxRecDepth 100000 in
theorem mw_143 : Cond.selects R_Pg y_Pg_fillWithStandard y_Pg_fillWithStandard ∈ lw_g := lw_gin (List.mem_append_right _ (List.mem_of_getElem? (i := 560) rfl)) (by decide +kernel)
set_option maxRecDepth 100000 in
theorem mw_144 : Cond.fieldLink R_Pg 54 "WriteOnceDisc$Medium" "sectors" "[LWriteOnceDisc$Sector;" ∈ lw_g := lw_gin (List.mem_append_right _ (List.mem_of_getElem? (i := 226) rfl)) (by decide +kernel)
set_option maxRecDepth 100000 in
theorem mw_145 : Cond.code y_Pg_putRecord b_Pg_putRecord 6 (some .int) ∈ lw_g := lw_gin (List.mem_append_right _ (List.mem_of_getElem? (i := 576) rfl)) (by decide +kernel)
set_option maxRecDepth 100000 in
theorem mw_146 : Cond.methodLink R_Pg 66 y_Pg_putRecord ∈ lw_g := lw_gin (List.mem_append_right _ (List.mem_of_getElem? (i := 573) rfl)) (by decide +kernel)
set_option maxRecDepth 100000 in
theorem mw_147 : Cond.instanceMethod y_Pg_putRecord ∈ lw_g := lw_gin (List.mem_append_right _ (List.mem_of_getElem? (i := 575) rfl)) (by decide +kernel)
set_option maxRecDepth 100000 in
theorem mw_148 : Cond.selects R_Pg y_Pg_putRecord y_Pg_putRecord ∈ lw_g := lw_gin (List.mem_append_left _ (List.mem_of_getElem? (i := 8) rfl)) (by decide +kernel)
set_option maxRecDepth 100000 in
theorem mw_149 : Cond.fieldLink R_Pg 104 "WriteOnceDisc$Node" "numberInPathTable" "I" ∈ lw_g := lw_gin (List.mem_append_right _ (List.mem_of_getElem? (i := 130) rfl)) (by decide +kernel)
set_option maxRecDepth 100000 in
theorem mw_150 : Cond.code y_Pg_putPathEntry b_Pg_putPathEntry 6 (some .int) ∈ lw_g := lw_gin (List.mem_append_right _ (List.mem_of_getElem? (i := 536) rfl)) (by decide +kernel)
set_option maxRecDepth 100000 in
theorem mw_151 : Cond.methodLink R_Pg 107 y_Pg_putPathEntry ∈ lw_g := lw_gin (List.mem_append_right _ (List.mem_of_getElem? (i := 533) rfl)) (by decide +kernel)
set_option maxRecDepth 100000 in
theorem mw_152 : Cond.instanceMethod y_Pg_putPathEntry ∈ lw_g := lw_gin (List.mem_append_right _ (List.mem_of_getElem? (i := 535) rfl)) (by decide +kernel)
set_option maxRecDepth 100000 in
theorem mw_153 : Cond.selects R_Pg y_Pg_putPathEntry y_Pg_putPathEntry ∈ lw_g := lw_gin (List.mem_append_left _ (List.mem_of_getElem? (i := 6) rfl)) (by decide +kernel)
theorem d_Di_evened_0 : decode b_Di_evened 0 = .ok (.iload_n 0, 1) := by decide +kernel
theorem d_Di_evened_1 : decode b_Di_evened 1 = .ok (.iload_n 0, 1) := by decide +kernel
theorem d_Di_evened_2 : decode b_Di_evened 2 = .ok (.iconst 2, 1) := by decide +kernel
theorem d_Di_evened_3 : decode b_Di_evened 3 = .ok (.irem, 1) := by decide +kernel
theorem d_Di_evened_4 : decode b_Di_evened 4 = .ok (.iadd, 1) := by decide +kernel
theorem d_Di_evened_5 : decode b_Di_evened 5 = .ok (.ireturn, 1) := by decide +kernel
theorem d_No_identifierLength_0 : decode b_No_identifierLength 0 = .ok (.aload_n 0, 1) := by decide +kernel
theorem d_No_identifierLength_1 : decode b_No_identifierLength 1 = .ok (.getfield 19, 3) := by decide +kernel
theorem d_No_identifierLength_4 : decode b_No_identifierLength 4 = .ok (.ifCond .eq 10, 3) := by decide +kernel
theorem d_No_identifierLength_7 : decode b_No_identifierLength 7 = .ok (.aload_n 0, 1) := by decide +kernel
theorem d_No_identifierLength_8 : decode b_No_identifierLength 8 = .ok (.getfield 27, 3) := by decide +kernel
theorem d_No_identifierLength_11 : decode b_No_identifierLength 11 = .ok (.goto 13, 3) := by decide +kernel
theorem d_No_identifierLength_24 : decode b_No_identifierLength 24 = .ok (.ireturn, 1) := by decide +kernel
theorem d_No_needsSectors_0 : decode b_No_needsSectors 0 = .ok (.aload_n 0, 1) := by decide +kernel
theorem d_No_needsSectors_1 : decode b_No_needsSectors 1 = .ok (.getfield 19, 3) := by decide +kernel
theorem d_No_needsSectors_4 : decode b_No_needsSectors 4 = .ok (.ifCond .ne 14, 3) := by decide +kernel
theorem d_No_needsSectors_18 : decode b_No_needsSectors 18 = .ok (.iconst 0, 1) := by decide +kernel
theorem d_No_needsSectors_19 : decode b_No_needsSectors 19 = .ok (.ireturn, 1) := by decide +kernel
theorem d_Pg_putIdentifier_0 : decode b_Pg_putIdentifier 0 = .ok (.iconst 0, 1) := by decide +kernel
theorem d_Pg_putIdentifier_1 : decode b_Pg_putIdentifier 1 = .ok (.istore_n 3, 1) := by decide +kernel
theorem d_Pg_putIdentifier_2 : decode b_Pg_putIdentifier 2 = .ok (.iload_n 3, 1) := by decide +kernel
theorem d_Pg_putIdentifier_3 : decode b_Pg_putIdentifier 3 = .ok (.aload_n 2, 1) := by decide +kernel
theorem d_Pg_putIdentifier_4 : decode b_Pg_putIdentifier 4 = .ok (.invokevirtual 124, 3) := by decide +kernel
theorem d_Pg_putIdentifier_7 : decode b_Pg_putIdentifier 7 = .ok (.if_icmp .ge 21, 3) := by decide +kernel
theorem d_Pg_putIdentifier_28 : decode b_Pg_putIdentifier 28 = .ok (.return_, 1) := by decide +kernel
theorem d_Pg_putPathEntry_0 : decode b_Pg_putPathEntry 0 = .ok (.aload_n 2, 1) := by decide +kernel
theorem d_Pg_putPathEntry_1 : decode b_Pg_putPathEntry 1 = .ok (.getfield 70, 3) := by decide +kernel
theorem d_Pg_putPathEntry_4 : decode b_Pg_putPathEntry 4 = .ok (.ifnonnull 7, 3) := by decide +kernel
theorem d_Pg_putPathEntry_7 : decode b_Pg_putPathEntry 7 = .ok (.iconst 1, 1) := by decide +kernel
theorem d_Pg_putPathEntry_8 : decode b_Pg_putPathEntry 8 = .ok (.goto 10, 3) := by decide +kernel
theorem d_Pg_putPathEntry_18 : decode b_Pg_putPathEntry 18 = .ok (.istore 4, 2) := by decide +kernel
theorem d_Pg_putPathEntry_20 : decode b_Pg_putPathEntry 20 = .ok (.aload_n 2, 1) := by decide +kernel
theorem d_Pg_putPathEntry_21 : decode b_Pg_putPathEntry 21 = .ok (.getfield 70, 3) := by decide +kernel
theorem d_Pg_putPathEntry_24 : decode b_Pg_putPathEntry 24 = .ok (.ifnonnull 7, 3) := by decide +kernel
theorem d_Pg_putPathEntry_27 : decode b_Pg_putPathEntry 27 = .ok (.iconst 1, 1) := by decide +kernel
theorem d_Pg_putPathEntry_28 : decode b_Pg_putPathEntry 28 = .ok (.goto 7, 3) := by decide +kernel
theorem d_Pg_putPathEntry_35 : decode b_Pg_putPathEntry 35 = .ok (.istore 5, 2) := by decide +kernel
theorem d_Pg_putPathEntry_37 : decode b_Pg_putPathEntry 37 = .ok (.aload_n 0, 1) := by decide +kernel
theorem d_Pg_putPathEntry_38 : decode b_Pg_putPathEntry 38 = .ok (.iload_n 1, 1) := by decide +kernel
theorem d_Pg_putPathEntry_39 : decode b_Pg_putPathEntry 39 = .ok (.iload 5, 2) := by decide +kernel
theorem d_Pg_putPathEntry_41 : decode b_Pg_putPathEntry 41 = .ok (.invokevirtual 31, 3) := by decide +kernel
theorem d_Pg_putPathEntry_44 : decode b_Pg_putPathEntry 44 = .ok (.iload_n 3, 1) := by decide +kernel
theorem d_Pg_putPathEntry_45 : decode b_Pg_putPathEntry 45 = .ok (.ifCond .eq 29, 3) := by decide +kernel
theorem d_Pg_putPathEntry_74 : decode b_Pg_putPathEntry 74 = .ok (.aload_n 0, 1) := by decide +kernel
theorem d_Pg_putPathEntry_75 : decode b_Pg_putPathEntry 75 = .ok (.iload_n 1, 1) := by decide +kernel
theorem d_Pg_putPathEntry_76 : decode b_Pg_putPathEntry 76 = .ok (.iconst 2, 1) := by decide +kernel
theorem d_Pg_putPathEntry_77 : decode b_Pg_putPathEntry 77 = .ok (.iadd, 1) := by decide +kernel
theorem d_Pg_putPathEntry_78 : decode b_Pg_putPathEntry 78 = .ok (.iconst 4, 1) := by decide +kernel
theorem d_Pg_putPathEntry_79 : decode b_Pg_putPathEntry 79 = .ok (.aload_n 2, 1) := by decide +kernel
theorem d_Pg_putPathEntry_80 : decode b_Pg_putPathEntry 80 = .ok (.getfield 114, 3) := by decide +kernel
theorem d_Pg_putPathEntry_83 : decode b_Pg_putPathEntry 83 = .ok (.invokevirtual 63, 3) := by decide +kernel
theorem d_Pg_putPathEntry_86 : decode b_Pg_putPathEntry 86 = .ok (.aload_n 0, 1) := by decide +kernel
theorem d_Pg_putPathEntry_87 : decode b_Pg_putPathEntry 87 = .ok (.iload_n 1, 1) := by decide +kernel
theorem d_Pg_putPathEntry_88 : decode b_Pg_putPathEntry 88 = .ok (.bipush 6, 2) := by decide +kernel
theorem d_Pg_putPathEntry_90 : decode b_Pg_putPathEntry 90 = .ok (.iadd, 1) := by decide +kernel
theorem d_Pg_putPathEntry_91 : decode b_Pg_putPathEntry 91 = .ok (.iconst 2, 1) := by decide +kernel
theorem d_Pg_putPathEntry_92 : decode b_Pg_putPathEntry 92 = .ok (.iload 4, 2) := by decide +kernel
theorem d_Pg_putPathEntry_94 : decode b_Pg_putPathEntry 94 = .ok (.invokevirtual 63, 3) := by decide +kernel
theorem d_Pg_putPathEntry_97 : decode b_Pg_putPathEntry 97 = .ok (.aload_n 0, 1) := by decide +kernel
theorem d_Pg_putPathEntry_98 : decode b_Pg_putPathEntry 98 = .ok (.iload_n 1, 1) := by decide +kernel
theorem d_Pg_putPathEntry_99 : decode b_Pg_putPathEntry 99 = .ok (.bipush 8, 2) := by decide +kernel
theorem d_Pg_putPathEntry_101 : decode b_Pg_putPathEntry 101 = .ok (.iadd, 1) := by decide +kernel
theorem d_Pg_putPathEntry_102 : decode b_Pg_putPathEntry 102 = .ok (.aload_n 2, 1) := by decide +kernel
theorem d_Pg_putPathEntry_103 : decode b_Pg_putPathEntry 103 = .ok (.invokevirtual 117, 3) := by decide +kernel
theorem d_Pg_putPathEntry_106 : decode b_Pg_putPathEntry 106 = .ok (.iload_n 1, 1) := by decide +kernel
theorem d_Pg_putPathEntry_107 : decode b_Pg_putPathEntry 107 = .ok (.bipush 8, 2) := by decide +kernel
theorem d_Pg_putPathEntry_109 : decode b_Pg_putPathEntry 109 = .ok (.iadd, 1) := by decide +kernel
theorem d_Pg_putPathEntry_110 : decode b_Pg_putPathEntry 110 = .ok (.iload 5, 2) := by decide +kernel
theorem d_Pg_putPathEntry_112 : decode b_Pg_putPathEntry 112 = .ok (.invokestatic 121, 3) := by decide +kernel
theorem d_Pg_putPathEntry_115 : decode b_Pg_putPathEntry 115 = .ok (.iadd, 1) := by decide +kernel
theorem d_Pg_putPathEntry_116 : decode b_Pg_putPathEntry 116 = .ok (.ireturn, 1) := by decide +kernel
theorem d_Pg_putPathEntry_48 : decode b_Pg_putPathEntry 48 = .ok (.aload_n 0, 1) := by decide +kernel
theorem d_Pg_putPathEntry_49 : decode b_Pg_putPathEntry 49 = .ok (.iload_n 1, 1) := by decide +kernel
theorem d_Pg_putPathEntry_50 : decode b_Pg_putPathEntry 50 = .ok (.iconst 2, 1) := by decide +kernel
theorem d_Pg_putPathEntry_51 : decode b_Pg_putPathEntry 51 = .ok (.iadd, 1) := by decide +kernel
theorem d_Pg_putPathEntry_52 : decode b_Pg_putPathEntry 52 = .ok (.iconst 4, 1) := by decide +kernel
theorem d_Pg_putPathEntry_53 : decode b_Pg_putPathEntry 53 = .ok (.aload_n 2, 1) := by decide +kernel
theorem d_Pg_putPathEntry_54 : decode b_Pg_putPathEntry 54 = .ok (.getfield 114, 3) := by decide +kernel
theorem d_Pg_putPathEntry_57 : decode b_Pg_putPathEntry 57 = .ok (.invokevirtual 46, 3) := by decide +kernel
theorem d_Pg_putPathEntry_60 : decode b_Pg_putPathEntry 60 = .ok (.aload_n 0, 1) := by decide +kernel
theorem d_Pg_putPathEntry_61 : decode b_Pg_putPathEntry 61 = .ok (.iload_n 1, 1) := by decide +kernel
theorem d_Pg_putPathEntry_62 : decode b_Pg_putPathEntry 62 = .ok (.bipush 6, 2) := by decide +kernel
theorem d_Pg_putPathEntry_64 : decode b_Pg_putPathEntry 64 = .ok (.iadd, 1) := by decide +kernel
theorem d_Pg_putPathEntry_65 : decode b_Pg_putPathEntry 65 = .ok (.iconst 2, 1) := by decide +kernel
theorem d_Pg_putPathEntry_66 : decode b_Pg_putPathEntry 66 = .ok (.iload 4, 2) := by decide +kernel
theorem d_Pg_putPathEntry_68 : decode b_Pg_putPathEntry 68 = .ok (.invokevirtual 46, 3) := by decide +kernel
theorem d_Pg_putPathEntry_71 : decode b_Pg_putPathEntry 71 = .ok (.goto 26, 3) := by decide +kernel
theorem d_Pg_putRecord_0 : decode b_Pg_putRecord 0 = .ok (.iload_n 3, 1) := by decide +kernel
theorem d_Pg_putRecord_1 : decode b_Pg_putRecord 1 = .ok (.iconst (-1), 1) := by decide +kernel
theorem d_Pg_putRecord_2 : decode b_Pg_putRecord 2 = .ok (.if_icmp .ne 10, 3) := by decide +kernel
theorem d_Pg_putRecord_12 : decode b_Pg_putRecord 12 = .ok (.iconst 1, 1) := by decide +kernel
theorem d_Pg_putRecord_13 : decode b_Pg_putRecord 13 = .ok (.istore 4, 2) := by decide +kernel
theorem d_Pg_putRecord_15 : decode b_Pg_putRecord 15 = .ok (.bipush 33, 2) := by decide +kernel
theorem d_Pg_putRecord_17 : decode b_Pg_putRecord 17 = .ok (.iload 4, 2) := by decide +kernel
theorem d_Pg_putRecord_19 : decode b_Pg_putRecord 19 = .ok (.iadd, 1) := by decide +kernel
theorem d_Pg_putRecord_20 : decode b_Pg_putRecord 20 = .ok (.invokestatic 121, 3) := by decide +kernel
theorem d_Pg_putRecord_23 : decode b_Pg_putRecord 23 = .ok (.istore 5, 2) := by decide +kernel
theorem d_Pg_putRecord_25 : decode b_Pg_putRecord 25 = .ok (.aload_n 0, 1) := by decide +kernel
theorem d_Pg_putRecord_26 : decode b_Pg_putRecord 26 = .ok (.iload_n 1, 1) := by decide +kernel
theorem d_Pg_putRecord_27 : decode b_Pg_putRecord 27 = .ok (.iload 5, 2) := by decide +kernel
theorem d_Pg_putRecord_29 : decode b_Pg_putRecord 29 = .ok (.invokevirtual 31, 3) := by decide +kernel
theorem d_Pg_putRecord_32 : decode b_Pg_putRecord 32 = .ok (.aload_n 0, 1) := by decide +kernel
theorem d_Pg_putRecord_33 : decode b_Pg_putRecord 33 = .ok (.iload_n 1, 1) := by decide +kernel
theorem d_Pg_putRecord_34 : decode b_Pg_putRecord 34 = .ok (.iconst 2, 1) := by decide +kernel
theorem d_Pg_putRecord_35 : decode b_Pg_putRecord 35 = .ok (.iadd, 1) := by decide +kernel
theorem d_Pg_putRecord_36 : decode b_Pg_putRecord 36 = .ok (.iconst 4, 1) := by decide +kernel
theorem d_Pg_putRecord_37 : decode b_Pg_putRecord 37 = .ok (.aload_n 2, 1) := by decide +kernel
theorem d_Pg_putRecord_38 : decode b_Pg_putRecord 38 = .ok (.getfield 114, 3) := by decide +kernel
theorem d_Pg_putRecord_41 : decode b_Pg_putRecord 41 = .ok (.invokevirtual 60, 3) := by decide +kernel
theorem d_Pg_putRecord_44 : decode b_Pg_putRecord 44 = .ok (.aload_n 0, 1) := by decide +kernel
theorem d_Pg_putRecord_45 : decode b_Pg_putRecord 45 = .ok (.iload_n 1, 1) := by decide +kernel
theorem d_Pg_putRecord_46 : decode b_Pg_putRecord 46 = .ok (.bipush 10, 2) := by decide +kernel
theorem d_Pg_putRecord_48 : decode b_Pg_putRecord 48 = .ok (.iadd, 1) := by decide +kernel
theorem d_Pg_putRecord_49 : decode b_Pg_putRecord 49 = .ok (.iconst 4, 1) := by decide +kernel
theorem d_Pg_putRecord_50 : decode b_Pg_putRecord 50 = .ok (.aload_n 2, 1) := by decide +kernel
theorem d_Pg_putRecord_51 : decode b_Pg_putRecord 51 = .ok (.getfield 101, 3) := by decide +kernel
theorem d_Pg_putRecord_54 : decode b_Pg_putRecord 54 = .ok (.ifCond .eq 9, 3) := by decide +kernel
theorem d_Pg_putRecord_57 : decode b_Pg_putRecord 57 = .ok (.sipush 2048, 3) := by decide +kernel
theorem d_Pg_putRecord_60 : decode b_Pg_putRecord 60 = .ok (.goto 7, 3) := by decide +kernel
theorem d_Pg_putRecord_67 : decode b_Pg_putRecord 67 = .ok (.invokevirtual 60, 3) := by decide +kernel
theorem d_Pg_putRecord_70 : decode b_Pg_putRecord 70 = .ok (.aload_n 0, 1) := by decide +kernel
theorem d_Pg_putRecord_71 : decode b_Pg_putRecord 71 = .ok (.iload_n 1, 1) := by decide +kernel
theorem d_Pg_putRecord_72 : decode b_Pg_putRecord 72 = .ok (.bipush 25, 2) := by decide +kernel
theorem d_Pg_putRecord_74 : decode b_Pg_putRecord 74 = .ok (.iadd, 1) := by decide +kernel
theorem d_Pg_putRecord_75 : decode b_Pg_putRecord 75 = .ok (.aload_n 2, 1) := by decide +kernel
theorem d_Pg_putRecord_76 : decode b_Pg_putRecord 76 = .ok (.getfield 101, 3) := by decide +kernel
theorem d_Pg_putRecord_79 : decode b_Pg_putRecord 79 = .ok (.ifCond .eq 7, 3) := by decide +kernel
theorem d_Pg_putRecord_82 : decode b_Pg_putRecord 82 = .ok (.iconst 2, 1) := by decide +kernel
theorem d_Pg_putRecord_83 : decode b_Pg_putRecord 83 = .ok (.goto 4, 3) := by decide +kernel
theorem d_Pg_putRecord_87 : decode b_Pg_putRecord 87 = .ok (.invokevirtual 31, 3) := by decide +kernel
theorem d_Pg_putRecord_90 : decode b_Pg_putRecord 90 = .ok (.aload_n 0, 1) := by decide +kernel
theorem d_Pg_putRecord_91 : decode b_Pg_putRecord 91 = .ok (.iload_n 1, 1) := by decide +kernel
theorem d_Pg_putRecord_92 : decode b_Pg_putRecord 92 = .ok (.bipush 28, 2) := by decide +kernel
theorem d_Pg_putRecord_94 : decode b_Pg_putRecord 94 = .ok (.iadd, 1) := by decide +kernel
theorem d_Pg_putRecord_95 : decode b_Pg_putRecord 95 = .ok (.iconst 2, 1) := by decide +kernel
theorem d_Pg_putRecord_96 : decode b_Pg_putRecord 96 = .ok (.iconst 1, 1) := by decide +kernel
theorem d_Pg_putRecord_97 : decode b_Pg_putRecord 97 = .ok (.invokevirtual 60, 3) := by decide +kernel
theorem d_Pg_putRecord_100 : decode b_Pg_putRecord 100 = .ok (.aload_n 0, 1) := by decide +kernel
theorem d_Pg_putRecord_101 : decode b_Pg_putRecord 101 = .ok (.iload_n 1, 1) := by decide +kernel
theorem d_Pg_putRecord_102 : decode b_Pg_putRecord 102 = .ok (.bipush 32, 2) := by decide +kernel
theorem d_Pg_putRecord_104 : decode b_Pg_putRecord 104 = .ok (.iadd, 1) := by decide +kernel
theorem d_Pg_putRecord_105 : decode b_Pg_putRecord 105 = .ok (.iload 4, 2) := by decide +kernel
theorem d_Pg_putRecord_107 : decode b_Pg_putRecord 107 = .ok (.invokevirtual 31, 3) := by decide +kernel
theorem d_Pg_putRecord_110 : decode b_Pg_putRecord 110 = .ok (.iload_n 3, 1) := by decide +kernel
theorem d_Pg_putRecord_111 : decode b_Pg_putRecord 111 = .ok (.iconst (-1), 1) := by decide +kernel
theorem d_Pg_putRecord_112 : decode b_Pg_putRecord 112 = .ok (.if_icmp .ne 15, 3) := by decide +kernel
theorem d_Pg_putRecord_127 : decode b_Pg_putRecord 127 = .ok (.aload_n 0, 1) := by decide +kernel
theorem d_Pg_putRecord_128 : decode b_Pg_putRecord 128 = .ok (.iload_n 1, 1) := by decide +kernel
theorem d_Pg_putRecord_129 : decode b_Pg_putRecord 129 = .ok (.bipush 33, 2) := by decide +kernel
theorem d_Pg_putRecord_131 : decode b_Pg_putRecord 131 = .ok (.iadd, 1) := by decide +kernel
theorem d_Pg_putRecord_132 : decode b_Pg_putRecord 132 = .ok (.iload_n 3, 1) := by decide +kernel
theorem d_Pg_putRecord_133 : decode b_Pg_putRecord 133 = .ok (.invokevirtual 31, 3) := by decide +kernel
theorem d_Pg_putRecord_136 : decode b_Pg_putRecord 136 = .ok (.iload_n 1, 1) := by decide +kernel
theorem d_Pg_putRecord_137 : decode b_Pg_putRecord 137 = .ok (.iload 5, 2) := by decide +kernel
theorem d_Pg_putRecord_139 : decode b_Pg_putRecord 139 = .ok (.iadd, 1) := by decide +kernel
theorem d_Pg_putRecord_140 : decode b_Pg_putRecord 140 = .ok (.ireturn, 1) := by decide +kernel
theorem d_Pg_fillWithStandard_0 : decode b_Pg_fillWithStandard 0 = .ok (.aload_n 0, 1) := by decide +kernel
theorem d_Pg_fillWithStandard_1 : decode b_Pg_fillWithStandard 1 = .ok (.invokevirtual 35, 3) := by decide +kernel
theorem d_Pg_fillWithStandard_4 : decode b_Pg_fillWithStandard 4 = .ok (.aload_n 0, 1) := by decide +kernel
theorem d_Pg_fillWithStandard_5 : decode b_Pg_fillWithStandard 5 = .ok (.iconst 0, 1) := by decide +kernel
theorem d_Pg_fillWithStandard_6 : decode b_Pg_fillWithStandard 6 = .ok (.iload_n 1, 1) := by decide +kernel
theorem d_Pg_fillWithStandard_7 : decode b_Pg_fillWithStandard 7 = .ok (.invokevirtual 31, 3) := by decide +kernel
theorem d_Pg_fillWithStandard_10 : decode b_Pg_fillWithStandard 10 = .ok (.aload_n 0, 1) := by decide +kernel
theorem d_Pg_fillWithStandard_11 : decode b_Pg_fillWithStandard 11 = .ok (.iconst 1, 1) := by decide +kernel
theorem d_Pg_fillWithStandard_12 : decode b_Pg_fillWithStandard 12 = .ok (.ldc 38, 2) := by decide +kernel
theorem d_Pg_fillWithStandard_14 : decode b_Pg_fillWithStandard 14 = .ok (.invokevirtual 40, 3) := by decide +kernel
theorem d_Pg_fillWithStandard_17 : decode b_Pg_fillWithStandard 17 = .ok (.aload_n 0, 1) := by decide +kernel
theorem d_Pg_fillWithStandard_18 : decode b_Pg_fillWithStandard 18 = .ok (.bipush 6, 2) := by decide +kernel
theorem d_Pg_fillWithStandard_20 : decode b_Pg_fillWithStandard 20 = .ok (.iconst 1, 1) := by decide +kernel
theorem d_Pg_fillWithStandard_21 : decode b_Pg_fillWithStandard 21 = .ok (.invokevirtual 31, 3) := by decide +kernel
theorem d_Pg_fillWithStandard_24 : decode b_Pg_fillWithStandard 24 = .ok (.return_, 1) := by decide +kernel
theorem d_Pg_fillWithMark_0 : decode b_Pg_fillWithMark 0 = .ok (.aload_n 0, 1) := by decide +kernel
theorem d_Pg_fillWithMark_1 : decode b_Pg_fillWithMark 1 = .ok (.invokevirtual 35, 3) := by decide +kernel
theorem d_Pg_fillWithMark_4 : decode b_Pg_fillWithMark 4 = .ok (.aload_n 0, 1) := by decide +kernel
theorem d_Pg_fillWithMark_5 : decode b_Pg_fillWithMark 5 = .ok (.iconst 0, 1) := by decide +kernel
theorem d_Pg_fillWithMark_6 : decode b_Pg_fillWithMark 6 = .ok (.ldc 44, 2) := by decide +kernel
theorem d_Pg_fillWithMark_8 : decode b_Pg_fillWithMark 8 = .ok (.invokevirtual 40, 3) := by decide +kernel
theorem d_Pg_fillWithMark_11 : decode b_Pg_fillWithMark 11 = .ok (.aload_n 0, 1) := by decide +kernel
theorem d_Pg_fillWithMark_12 : decode b_Pg_fillWithMark 12 = .ok (.iconst 4, 1) := by decide +kernel
theorem d_Pg_fillWithMark_13 : decode b_Pg_fillWithMark 13 = .ok (.iconst 4, 1) := by decide +kernel
theorem d_Pg_fillWithMark_14 : decode b_Pg_fillWithMark 14 = .ok (.iload_n 1, 1) := by decide +kernel
theorem d_Pg_fillWithMark_15 : decode b_Pg_fillWithMark 15 = .ok (.invokevirtual 46, 3) := by decide +kernel
theorem d_Pg_fillWithMark_18 : decode b_Pg_fillWithMark 18 = .ok (.aload_n 0, 1) := by decide +kernel
theorem d_Pg_fillWithMark_19 : decode b_Pg_fillWithMark 19 = .ok (.bipush 8, 2) := by decide +kernel
theorem d_Pg_fillWithMark_21 : decode b_Pg_fillWithMark 21 = .ok (.iconst 4, 1) := by decide +kernel
theorem d_Pg_fillWithMark_22 : decode b_Pg_fillWithMark 22 = .ok (.iload_n 2, 1) := by decide +kernel
theorem d_Pg_fillWithMark_23 : decode b_Pg_fillWithMark 23 = .ok (.invokevirtual 46, 3) := by decide +kernel
theorem d_Pg_fillWithMark_26 : decode b_Pg_fillWithMark 26 = .ok (.return_, 1) := by decide +kernel
theorem d_Pg_fillWithDescriptor_0 : decode b_Pg_fillWithDescriptor 0 = .ok (.aload_n 0, 1) := by decide +kernel
theorem d_Pg_fillWithDescriptor_1 : decode b_Pg_fillWithDescriptor 1 = .ok (.iconst 1, 1) := by decide +kernel
theorem d_Pg_fillWithDescriptor_2 : decode b_Pg_fillWithDescriptor 2 = .ok (.invokevirtual 50, 3) := by decide +kernel
theorem d_Pg_fillWithDescriptor_5 : decode b_Pg_fillWithDescriptor 5 = .ok (.aload_n 0, 1) := by decide +kernel
theorem d_Pg_fillWithDescriptor_6 : decode b_Pg_fillWithDescriptor 6 = .ok (.bipush 80, 2) := by decide +kernel
theorem d_Pg_fillWithDescriptor_8 : decode b_Pg_fillWithDescriptor 8 = .ok (.iconst 4, 1) := by decide +kernel
theorem d_Pg_fillWithDescriptor_9 : decode b_Pg_fillWithDescriptor 9 = .ok (.aload_n 1, 1) := by decide +kernel
theorem d_Pg_fillWithDescriptor_10 : decode b_Pg_fillWithDescriptor 10 = .ok (.getfield 54, 3) := by decide +kernel
theorem d_Pg_fillWithDescriptor_13 : decode b_Pg_fillWithDescriptor 13 = .ok (.arraylength, 1) := by decide +kernel
theorem d_Pg_fillWithDescriptor_14 : decode b_Pg_fillWithDescriptor 14 = .ok (.invokevirtual 60, 3) := by decide +kernel
theorem d_Pg_fillWithDescriptor_17 : decode b_Pg_fillWithDescriptor 17 = .ok (.aload_n 0, 1) := by decide +kernel
theorem d_Pg_fillWithDescriptor_18 : decode b_Pg_fillWithDescriptor 18 = .ok (.sipush 128, 3) := by decide +kernel
theorem d_Pg_fillWithDescriptor_21 : decode b_Pg_fillWithDescriptor 21 = .ok (.iconst 2, 1) := by decide +kernel
theorem d_Pg_fillWithDescriptor_22 : decode b_Pg_fillWithDescriptor 22 = .ok (.sipush 2048, 3) := by decide +kernel
theorem d_Pg_fillWithDescriptor_25 : decode b_Pg_fillWithDescriptor 25 = .ok (.invokevirtual 60, 3) := by decide +kernel
theorem d_Pg_fillWithDescriptor_28 : decode b_Pg_fillWithDescriptor 28 = .ok (.aload_n 0, 1) := by decide +kernel
theorem d_Pg_fillWithDescriptor_29 : decode b_Pg_fillWithDescriptor 29 = .ok (.sipush 132, 3) := by decide +kernel
theorem d_Pg_fillWithDescriptor_32 : decode b_Pg_fillWithDescriptor 32 = .ok (.iconst 4, 1) := by decide +kernel
theorem d_Pg_fillWithDescriptor_33 : decode b_Pg_fillWithDescriptor 33 = .ok (.iload_n 3, 1) := by decide +kernel
theorem d_Pg_fillWithDescriptor_34 : decode b_Pg_fillWithDescriptor 34 = .ok (.invokevirtual 60, 3) := by decide +kernel
theorem d_Pg_fillWithDescriptor_37 : decode b_Pg_fillWithDescriptor 37 = .ok (.aload_n 0, 1) := by decide +kernel
theorem d_Pg_fillWithDescriptor_38 : decode b_Pg_fillWithDescriptor 38 = .ok (.sipush 140, 3) := by decide +kernel
theorem d_Pg_fillWithDescriptor_41 : decode b_Pg_fillWithDescriptor 41 = .ok (.iconst 4, 1) := by decide +kernel
theorem d_Pg_fillWithDescriptor_42 : decode b_Pg_fillWithDescriptor 42 = .ok (.iload_n 2, 1) := by decide +kernel
theorem d_Pg_fillWithDescriptor_43 : decode b_Pg_fillWithDescriptor 43 = .ok (.bipush 18, 2) := by decide +kernel
theorem d_Pg_fillWithDescriptor_45 : decode b_Pg_fillWithDescriptor 45 = .ok (.iadd, 1) := by decide +kernel
theorem d_Pg_fillWithDescriptor_46 : decode b_Pg_fillWithDescriptor 46 = .ok (.invokevirtual 46, 3) := by decide +kernel
theorem d_Pg_fillWithDescriptor_49 : decode b_Pg_fillWithDescriptor 49 = .ok (.aload_n 0, 1) := by decide +kernel
theorem d_Pg_fillWithDescriptor_50 : decode b_Pg_fillWithDescriptor 50 = .ok (.sipush 148, 3) := by decide +kernel
theorem d_Pg_fillWithDescriptor_53 : decode b_Pg_fillWithDescriptor 53 = .ok (.iconst 4, 1) := by decide +kernel
theorem d_Pg_fillWithDescriptor_54 : decode b_Pg_fillWithDescriptor 54 = .ok (.iload_n 2, 1) := by decide +kernel
theorem d_Pg_fillWithDescriptor_55 : decode b_Pg_fillWithDescriptor 55 = .ok (.bipush 19, 2) := by decide +kernel
theorem d_Pg_fillWithDescriptor_57 : decode b_Pg_fillWithDescriptor 57 = .ok (.iadd, 1) := by decide +kernel
theorem d_Pg_fillWithDescriptor_58 : decode b_Pg_fillWithDescriptor 58 = .ok (.invokevirtual 63, 3) := by decide +kernel
theorem d_Pg_fillWithDescriptor_61 : decode b_Pg_fillWithDescriptor 61 = .ok (.aload_n 0, 1) := by decide +kernel
theorem d_Pg_fillWithDescriptor_62 : decode b_Pg_fillWithDescriptor 62 = .ok (.sipush 156, 3) := by decide +kernel
theorem d_Pg_fillWithDescriptor_65 : decode b_Pg_fillWithDescriptor 65 = .ok (.aload 4, 2) := by decide +kernel
theorem d_Pg_fillWithDescriptor_67 : decode b_Pg_fillWithDescriptor 67 = .ok (.iconst 0, 1) := by decide +kernel
theorem d_Pg_fillWithDescriptor_68 : decode b_Pg_fillWithDescriptor 68 = .ok (.invokevirtual 66, 3) := by decide +kernel
theorem d_Pg_fillWithDescriptor_71 : decode b_Pg_fillWithDescriptor 71 = .ok (.pop, 1) := by decide +kernel
theorem d_Pg_fillWithDescriptor_72 : decode b_Pg_fillWithDescriptor 72 = .ok (.return_, 1) := by decide +kernel
theorem d_Pg_fillWithPathTable_0 : decode b_Pg_fillWithPathTable 0 = .ok (.aload_n 0, 1) := by decide +kernel
theorem d_Pg_fillWithPathTable_1 : decode b_Pg_fillWithPathTable 1 = .ok (.invokevirtual 35, 3) := by decide +kernel
theorem d_Pg_fillWithPathTable_4 : decode b_Pg_fillWithPathTable 4 = .ok (.iconst 0, 1) := by decide +kernel
theorem d_Pg_fillWithPathTable_5 : decode b_Pg_fillWithPathTable 5 = .ok (.istore 4, 2) := by decide +kernel
theorem d_Pg_fillWithPathTable_7 : decode b_Pg_fillWithPathTable 7 = .ok (.iconst 0, 1) := by decide +kernel
theorem d_Pg_fillWithPathTable_8 : decode b_Pg_fillWithPathTable 8 = .ok (.istore 5, 2) := by decide +kernel
theorem d_Pg_fillWithPathTable_10 : decode b_Pg_fillWithPathTable 10 = .ok (.iconst 0, 1) := by decide +kernel
theorem d_Pg_fillWithPathTable_11 : decode b_Pg_fillWithPathTable 11 = .ok (.istore 6, 2) := by decide +kernel
theorem d_Pg_fillWithPathTable_13 : decode b_Pg_fillWithPathTable 13 = .ok (.iload 6, 2) := by decide +kernel
theorem d_Pg_fillWithPathTable_15 : decode b_Pg_fillWithPathTable 15 = .ok (.iload_n 2, 1) := by decide +kernel
theorem d_Pg_fillWithPathTable_16 : decode b_Pg_fillWithPathTable 16 = .ok (.if_icmp .ge 51, 3) := by decide +kernel
theorem d_Pg_fillWithPathTable_19 : decode b_Pg_fillWithPathTable 19 = .ok (.iload 6, 2) := by decide +kernel
theorem d_Pg_fillWithPathTable_21 : decode b_Pg_fillWithPathTable 21 = .ok (.aload_n 1, 1) := by decide +kernel
theorem d_Pg_fillWithPathTable_22 : decode b_Pg_fillWithPathTable 22 = .ok (.arraylength, 1) := by decide +kernel
theorem d_Pg_fillWithPathTable_23 : decode b_Pg_fillWithPathTable 23 = .ok (.if_icmp .ge 44, 3) := by decide +kernel
theorem d_Pg_fillWithPathTable_26 : decode b_Pg_fillWithPathTable 26 = .ok (.aload_n 1, 1) := by decide +kernel
theorem d_Pg_fillWithPathTable_27 : decode b_Pg_fillWithPathTable 27 = .ok (.iload 6, 2) := by decide +kernel
theorem d_Pg_fillWithPathTable_29 : decode b_Pg_fillWithPathTable 29 = .ok (.aaload, 1) := by decide +kernel
theorem d_Pg_fillWithPathTable_30 : decode b_Pg_fillWithPathTable 30 = .ok (.getfield 101, 3) := by decide +kernel
theorem d_Pg_fillWithPathTable_33 : decode b_Pg_fillWithPathTable 33 = .ok (.ifCond .eq 28, 3) := by decide +kernel
theorem d_Pg_fillWithPathTable_36 : decode b_Pg_fillWithPathTable 36 = .ok (.iinc 5 1, 3) := by decide +kernel
theorem d_Pg_fillWithPathTable_39 : decode b_Pg_fillWithPathTable 39 = .ok (.aload_n 1, 1) := by decide +kernel
theorem d_Pg_fillWithPathTable_40 : decode b_Pg_fillWithPathTable 40 = .ok (.iload 6, 2) := by decide +kernel
theorem d_Pg_fillWithPathTable_42 : decode b_Pg_fillWithPathTable 42 = .ok (.aaload, 1) := by decide +kernel
theorem d_Pg_fillWithPathTable_43 : decode b_Pg_fillWithPathTable 43 = .ok (.iload 5, 2) := by decide +kernel
theorem d_Pg_fillWithPathTable_45 : decode b_Pg_fillWithPathTable 45 = .ok (.putfield 104, 3) := by decide +kernel
theorem d_Pg_fillWithPathTable_48 : decode b_Pg_fillWithPathTable 48 = .ok (.aload_n 0, 1) := by decide +kernel
theorem d_Pg_fillWithPathTable_49 : decode b_Pg_fillWithPathTable 49 = .ok (.iload 4, 2) := by decide +kernel
theorem d_Pg_fillWithPathTable_51 : decode b_Pg_fillWithPathTable 51 = .ok (.aload_n 1, 1) := by decide +kernel
theorem d_Pg_fillWithPathTable_52 : decode b_Pg_fillWithPathTable 52 = .ok (.iload 6, 2) := by decide +kernel
theorem d_Pg_fillWithPathTable_54 : decode b_Pg_fillWithPathTable 54 = .ok (.aaload, 1) := by decide +kernel
theorem d_Pg_fillWithPathTable_55 : decode b_Pg_fillWithPathTable 55 = .ok (.iload_n 3, 1) := by decide +kernel
theorem d_Pg_fillWithPathTable_56 : decode b_Pg_fillWithPathTable 56 = .ok (.invokevirtual 107, 3) := by decide +kernel
theorem d_Pg_fillWithPathTable_59 : decode b_Pg_fillWithPathTable 59 = .ok (.istore 4, 2) := by decide +kernel
theorem d_Pg_fillWithPathTable_61 : decode b_Pg_fillWithPathTable 61 = .ok (.iinc 6 1, 3) := by decide +kernel
theorem d_Pg_fillWithPathTable_64 : decode b_Pg_fillWithPathTable 64 = .ok (.goto (-51), 3) := by decide +kernel
theorem d_Pg_fillWithPathTable_67 : decode b_Pg_fillWithPathTable 67 = .ok (.iload 4, 2) := by decide +kernel
theorem d_Pg_fillWithPathTable_69 : decode b_Pg_fillWithPathTable 69 = .ok (.ireturn, 1) := by decide +kernel
theorem d_Pg_fillWithDirectory_0 : decode b_Pg_fillWithDirectory 0 = .ok (.aload_n 0, 1) := by decide +kernel
theorem d_Pg_fillWithDirectory_1 : decode b_Pg_fillWithDirectory 1 = .ok (.invokevirtual 35, 3) := by decide +kernel
theorem d_Pg_fillWithDirectory_4 : decode b_Pg_fillWithDirectory 4 = .ok (.aload_n 0, 1) := by decide +kernel
theorem d_Pg_fillWithDirectory_5 : decode b_Pg_fillWithDirectory 5 = .ok (.iconst 0, 1) := by decide +kernel
theorem d_Pg_fillWithDirectory_6 : decode b_Pg_fillWithDirectory 6 = .ok (.aload_n 1, 1) := by decide +kernel
theorem d_Pg_fillWithDirectory_7 : decode b_Pg_fillWithDirectory 7 = .ok (.iconst 0, 1) := by decide +kernel
theorem d_Pg_fillWithDirectory_8 : decode b_Pg_fillWithDirectory 8 = .ok (.invokevirtual 66, 3) := by decide +kernel
theorem d_Pg_fillWithDirectory_11 : decode b_Pg_fillWithDirectory 11 = .ok (.istore 4, 2) := by decide +kernel
theorem d_Pg_fillWithDirectory_13 : decode b_Pg_fillWithDirectory 13 = .ok (.aload_n 0, 1) := by decide +kernel
theorem d_Pg_fillWithDirectory_14 : decode b_Pg_fillWithDirectory 14 = .ok (.iload 4, 2) := by decide +kernel
theorem d_Pg_fillWithDirectory_16 : decode b_Pg_fillWithDirectory 16 = .ok (.aload_n 1, 1) := by decide +kernel
theorem d_Pg_fillWithDirectory_17 : decode b_Pg_fillWithDirectory 17 = .ok (.getfield 70, 3) := by decide +kernel
theorem d_Pg_fillWithDirectory_20 : decode b_Pg_fillWithDirectory 20 = .ok (.ifnonnull 7, 3) := by decide +kernel
theorem d_Pg_fillWithDirectory_23 : decode b_Pg_fillWithDirectory 23 = .ok (.aload_n 1, 1) := by decide +kernel
theorem d_Pg_fillWithDirectory_24 : decode b_Pg_fillWithDirectory 24 = .ok (.goto 7, 3) := by decide +kernel
theorem d_Pg_fillWithDirectory_31 : decode b_Pg_fillWithDirectory 31 = .ok (.iconst 1, 1) := by decide +kernel
theorem d_Pg_fillWithDirectory_32 : decode b_Pg_fillWithDirectory 32 = .ok (.invokevirtual 66, 3) := by decide +kernel
theorem d_Pg_fillWithDirectory_35 : decode b_Pg_fillWithDirectory 35 = .ok (.istore 4, 2) := by decide +kernel
theorem d_Pg_fillWithDirectory_37 : decode b_Pg_fillWithDirectory 37 = .ok (.iconst 0, 1) := by decide +kernel
theorem d_Pg_fillWithDirectory_38 : decode b_Pg_fillWithDirectory 38 = .ok (.istore 5, 2) := by decide +kernel
theorem d_Pg_fillWithDirectory_40 : decode b_Pg_fillWithDirectory 40 = .ok (.iload 5, 2) := by decide +kernel
theorem d_Pg_fillWithDirectory_42 : decode b_Pg_fillWithDirectory 42 = .ok (.iload_n 3, 1) := by decide +kernel
theorem d_Pg_fillWithDirectory_43 : decode b_Pg_fillWithDirectory 43 = .ok (.if_icmp .ge 40, 3) := by decide +kernel
theorem d_Pg_fillWithDirectory_46 : decode b_Pg_fillWithDirectory 46 = .ok (.iload 5, 2) := by decide +kernel
theorem d_Pg_fillWithDirectory_48 : decode b_Pg_fillWithDirectory 48 = .ok (.aload_n 2, 1) := by decide +kernel
theorem d_Pg_fillWithDirectory_49 : decode b_Pg_fillWithDirectory 49 = .ok (.arraylength, 1) := by decide +kernel
theorem d_Pg_fillWithDirectory_50 : decode b_Pg_fillWithDirectory 50 = .ok (.if_icmp .ge 33, 3) := by decide +kernel
theorem d_Pg_fillWithDirectory_53 : decode b_Pg_fillWithDirectory 53 = .ok (.aload_n 2, 1) := by decide +kernel
theorem d_Pg_fillWithDirectory_54 : decode b_Pg_fillWithDirectory 54 = .ok (.iload 5, 2) := by decide +kernel
theorem d_Pg_fillWithDirectory_56 : decode b_Pg_fillWithDirectory 56 = .ok (.aaload, 1) := by decide +kernel
theorem d_Pg_fillWithDirectory_57 : decode b_Pg_fillWithDirectory 57 = .ok (.getfield 70, 3) := by decide +kernel
theorem d_Pg_fillWithDirectory_60 : decode b_Pg_fillWithDirectory 60 = .ok (.aload_n 1, 1) := by decide +kernel
theorem d_Pg_fillWithDirectory_61 : decode b_Pg_fillWithDirectory 61 = .ok (.if_acmp .ne 16, 3) := by decide +kernel
theorem d_Pg_fillWithDirectory_77 : decode b_Pg_fillWithDirectory 77 = .ok (.iinc 5 1, 3) := by decide +kernel
theorem d_Pg_fillWithDirectory_80 : decode b_Pg_fillWithDirectory 80 = .ok (.goto (-40), 3) := by decide +kernel
theorem d_Pg_fillWithDirectory_83 : decode b_Pg_fillWithDirectory 83 = .ok (.return_, 1) := by decide +kernel
set_option maxHeartbeats 4000000 in
set_option maxRecDepth 100000 in
theorem c_Di_evened (l : Launch) (D : va_G) (t : Nat → ClassId) (G : Heap) (ak av : Nat → Nat) (h : hM) (x : Int32) : Met l y_Di_evened (.code y_Di_evened b_Di_evened 1 (some .int) :: lw_g) { frames := 0, cells := 0, slots := 0, locals := 0 } (hP (kE D t G ak av) D vwCl G h [.int x]) (hQi D vwCl G (fun r h' => r = x + (x - x / 2 * 2) ∧ h = h')) 0 0 (fun q => G.size ≤ q) := by
  refine Met.ofW (cc := b_Di_evened) (maxL := 1) (ret := (some .int)) (by decide) rfl ?_
  intro p e s m args below meth c s₁ Bd hml hv
  obtain ⟨ha, hE, hH⟩ := hv
  have hx := Bd.exec
  have hb := Bd.bytes
  have hr := Bd.returns
  have hts : ∀ w ∈ lw_g, w.before args s = true := fun w hw => atoms_spec (ws := (.code y_Di_evened b_Di_evened 1 (some .int) :: lw_g)) Bd.pre w (List.mem_cons_of_mem _ hw)
  have hown : s.vm.findClass R_Di = some m.cls := findClass_of_methodNamed Bd.named
  have hlocks := Bd.notSynchronized
  have hK := hE.1
  have hH0 := hH
  have hLo : hLc G.size [] := hLc_nil
  have hz : s.heap.size ≤ s.heap.size := Nat.le_refl _
  have hkp : kp [] h h := kp_rf
  have hl := lv_entry [.int x] (n := 1) (Nat.le_of_ble_eq_true rfl)
  rw [show entryFrame m args 1 = F0 m 0 ((lg_sl [.int x] ++ List.replicate (1 - (lg_sl [.int x]).length) Slot.unset).toArray) [] from (by rw [ha]; exact lg_entry_eq m [.int x] 1)]
  generalize (lg_sl [.int x] ++ List.replicate (1 - (lg_sl [.int x]).length) Slot.unset).toArray = ls at hl ⊢
  have hl : lv_has ls 1 [(0, .int x)] := hl
  refine lv_iload_n hx hb d_Di_evened_0 rfl (lv_at hl 0 rfl) ?_
  refine lv_iload_n hx hb d_Di_evened_1 rfl (lv_at hl 0 rfl) ?_
  refine lv_iconst (v := 2) hx hb d_Di_evened_2 (by decide) ?_
  refine lv_irem hx hb d_Di_evened_3 (by decide) ?_
  refine lv_iadd hx hb d_Di_evened_4 ?_
  exact W.iret (v := x + (x - x / 2 * 2)) hx hb hr (fun t9 ht hW => ⟨x + (x - x / 2 * 2), h, rfl, ⟨rfl, rfl⟩, by rw [ht]; exact hH, by rw [ht]; exact hz⟩) hLo d_Di_evened_5

set_option maxHeartbeats 4000000 in
set_option maxRecDepth 100000 in
theorem c_Node_idlen_root (l : Launch) (D : va_G) (t : Nat → ClassId) (G : Heap) (ak av : Nat → Nat) (h : hM) (rt : Nat) (sc np : Int32) (f_rt : h rt = some (.inr (1, [.int 0, .null, .int 1, .long 0, .int 0, .int 0, .int 0, .int 0, .int 0, .int sc, .int np]))) : Met l y_No_identifierLength (.code y_No_identifierLength b_No_identifierLength 1 (some .int) :: lw_g) { frames := 0, cells := 0, slots := 0, locals := 0 } (hP (kE D t G ak av) D vwCl G h [.ref rt]) (hQi D vwCl G (fun r h' => r = 0 ∧ h = h')) 0 0 (fun q => G.size ≤ q) := by
  refine Met.ofW (cc := b_No_identifierLength) (maxL := 1) (ret := (some .int)) (by decide) rfl ?_
  intro p e s m args below meth c s₁ Bd hml hv
  obtain ⟨ha, hE, hH⟩ := hv
  have hx := Bd.exec
  have hb := Bd.bytes
  have hr := Bd.returns
  have hts : ∀ w ∈ lw_g, w.before args s = true := fun w hw => atoms_spec (ws := (.code y_No_identifierLength b_No_identifierLength 1 (some .int) :: lw_g)) Bd.pre w (List.mem_cons_of_mem _ hw)
  have hown : s.vm.findClass R_No = some m.cls := findClass_of_methodNamed Bd.named
  have hlocks := Bd.notSynchronized
  have hK := hE.1
  have hH0 := hH
  have hLo : hLc G.size [] := hLc_nil
  have hz : s.heap.size ≤ s.heap.size := Nat.le_refl _
  have hkp : kp [] h h := kp_rf
  have hl := lv_entry [.ref rt] (n := 1) (Nat.le_of_ble_eq_true rfl)
  rw [show entryFrame m args 1 = F0 m 0 ((lg_sl [.ref rt] ++ List.replicate (1 - (lg_sl [.ref rt]).length) Slot.unset).toArray) [] from (by rw [ha]; exact lg_entry_eq m [.ref rt] 1)]
  generalize (lg_sl [.ref rt] ++ List.replicate (1 - (lg_sl [.ref rt]).length) Slot.unset).toArray = ls at hl ⊢
  have hl : lv_has ls 1 [(0, .ref rt)] := hl
  refine lv_aload_n hx hb d_No_identifierLength_0 rfl (lv_at hl 0 rfl) ?_
  refine hm_get (ci := 1) (v := .int 1) (C := R_No) (T := F_No) (N := 11) hx hb hts ig_No hown hK hH f_rt rfl 2 (by decide) (hts _ mw_13) (fun _ h9 => h9) rfl d_No_identifierLength_1 ?_
  refine lv_if_eq (tgt := 14) hx hb d_No_identifierLength_4 (by decide) (fun hc1 => absurd hc1 (by decide)) (fun hc1 => ?_)
  refine lv_aload_n hx hb d_No_identifierLength_7 rfl (lv_at hl 0 rfl) ?_
  refine hm_get (ci := 1) (v := .int 0) (C := R_No) (T := F_No) (N := 11) hx hb hts ig_No hown hK hH f_rt rfl 4 (by decide) (hts _ mw_15) (fun _ h9 => h9) rfl d_No_identifierLength_8 ?_
  refine lv_goto (tgt := 24) hx hb d_No_identifierLength_11 (by decide) ?_
  exact W.iret (v := 0) hx hb hr (fun t9 ht hW => ⟨0, h, rfl, ⟨rfl, rfl⟩, by rw [ht]; exact hH, by rw [ht]; exact hz⟩) hLo d_No_identifierLength_24

set_option maxHeartbeats 4000000 in
set_option maxRecDepth 100000 in
theorem c_Node_needs_root (l : Launch) (D : va_G) (t : Nat → ClassId) (G : Heap) (ak av : Nat → Nat) (h : hM) (rt : Nat) (sc np : Int32) (f_rt : h rt = some (.inr (1, [.int 0, .null, .int 1, .long 0, .int 0, .int 0, .int 0, .int 0, .int 0, .int sc, .int np]))) : Met l y_No_needsSectors (.code y_No_needsSectors b_No_needsSectors 1 (some .boolean) :: lw_g) { frames := 0, cells := 0, slots := 0, locals := 0 } (hP (kE D t G ak av) D vwCl G h [.ref rt]) (hQi D vwCl G (fun r h' => r = 0 ∧ h = h')) 0 0 (fun q => G.size ≤ q) := by
  refine Met.ofW (cc := b_No_needsSectors) (maxL := 1) (ret := (some .boolean)) (by decide) rfl ?_
  intro p e s m args below meth c s₁ Bd hml hv
  obtain ⟨ha, hE, hH⟩ := hv
  have hx := Bd.exec
  have hb := Bd.bytes
  have hr := Bd.returns
  have hts : ∀ w ∈ lw_g, w.before args s = true := fun w hw => atoms_spec (ws := (.code y_No_needsSectors b_No_needsSectors 1 (some .boolean) :: lw_g)) Bd.pre w (List.mem_cons_of_mem _ hw)
  have hown : s.vm.findClass R_No = some m.cls := findClass_of_methodNamed Bd.named
  have hlocks := Bd.notSynchronized
  have hK := hE.1
  have hH0 := hH
  have hLo : hLc G.size [] := hLc_nil
  have hz : s.heap.size ≤ s.heap.size := Nat.le_refl _
  have hkp : kp [] h h := kp_rf
  have hl := lv_entry [.ref rt] (n := 1) (Nat.le_of_ble_eq_true rfl)
  rw [show entryFrame m args 1 = F0 m 0 ((lg_sl [.ref rt] ++ List.replicate (1 - (lg_sl [.ref rt]).length) Slot.unset).toArray) [] from (by rw [ha]; exact lg_entry_eq m [.ref rt] 1)]
  generalize (lg_sl [.ref rt] ++ List.replicate (1 - (lg_sl [.ref rt]).length) Slot.unset).toArray = ls at hl ⊢
  have hl : lv_has ls 1 [(0, .ref rt)] := hl
  refine lv_aload_n hx hb d_No_needsSectors_0 rfl (lv_at hl 0 rfl) ?_
  refine hm_get (ci := 1) (v := .int 1) (C := R_No) (T := F_No) (N := 11) hx hb hts ig_No hown hK hH f_rt rfl 2 (by decide) (hts _ mw_13) (fun _ h9 => h9) rfl d_No_needsSectors_1 ?_
  refine lv_if_ne (tgt := 18) hx hb d_No_needsSectors_4 (by decide) (fun hc1 => ?_) (fun hc1 => absurd hc1 (by decide))
  refine lv_iconst (v := 0) hx hb d_No_needsSectors_18 (by decide) ?_
  exact W.zret (v := 0) hx hb hr (by decide) (fun t9 ht hW => ⟨0, h, rfl, ⟨rfl, rfl⟩, by rw [ht]; exact hH, by rw [ht]; exact hz⟩) hLo d_No_needsSectors_19

set_option maxHeartbeats 4000000 in
set_option maxRecDepth 100000 in
theorem c_Page_putId_root (l : Launch) (D : va_G) (t : Nat → ClassId) (G : Heap) (ak av : Nat → Nat) (h : hM) (pg pb rt : Nat) (at_ sc np : Int32) (f_pg : h pg = some (.inr (3, [.ref pb]))) (hpb : pgF t h pb 2048) (f_rt : h rt = some (.inr (1, [.int 0, .null, .int 1, .long 0, .int 0, .int 0, .int 0, .int 0, .int 0, .int sc, .int np]))) : Met l y_Pg_putIdentifier (.code y_Pg_putIdentifier b_Pg_putIdentifier 4 none :: lw_g) { frames := 1, cells := 0, slots := 0, locals := 20 } (hP (kE D t G ak av) D vwCl G h [.ref pg, .int at_, .ref rt]) (hQv D vwCl G (fun h' => kp [pb] h h' ∧ pgF t h' pb 2048)) 0 0 (fun q => G.size ≤ q) := by
  refine Met.ofW (cc := b_Pg_putIdentifier) (maxL := 4) (ret := none) (by decide) rfl ?_
  intro p e s m args below meth c s₁ Bd hml hv
  obtain ⟨ha, hE, hH⟩ := hv
  have hx := Bd.exec
  have hb := Bd.bytes
  have hr := Bd.returns
  have hts : ∀ w ∈ lw_g, w.before args s = true := fun w hw => atoms_spec (ws := (.code y_Pg_putIdentifier b_Pg_putIdentifier 4 none :: lw_g)) Bd.pre w (List.mem_cons_of_mem _ hw)
  have hown : s.vm.findClass R_Pg = some m.cls := findClass_of_methodNamed Bd.named
  have hlocks := Bd.notSynchronized
  have hK := hE.1
  have hH0 := hH
  have hLo : hLc G.size [] := hLc_nil
  have hz : s.heap.size ≤ s.heap.size := Nat.le_refl _
  have hkp : kp [pb] h h := kp_rf
  have hl := lv_entry [.ref pg, .int at_, .ref rt] (n := 4) (Nat.le_of_ble_eq_true rfl)
  rw [show entryFrame m args 4 = F0 m 0 ((lg_sl [.ref pg, .int at_, .ref rt] ++ List.replicate (4 - (lg_sl [.ref pg, .int at_, .ref rt]).length) Slot.unset).toArray) [] from (by rw [ha]; exact lg_entry_eq m [.ref pg, .int at_, .ref rt] 4)]
  generalize (lg_sl [.ref pg, .int at_, .ref rt] ++ List.replicate (4 - (lg_sl [.ref pg, .int at_, .ref rt]).length) Slot.unset).toArray = ls at hl ⊢
  have hl : lv_has ls 4 [(0, .ref pg), (1, .int at_), (2, .ref rt)] := hl
  obtain ⟨f, hfit, f_pb⟩ := hpb
  refine lv_iconst (v := 0) hx hb d_Pg_putIdentifier_0 (by decide) ?_
  refine lv_istore_n (lv' := [(3, .int 0), (0, .ref pg), (1, .int at_), (2, .ref rt)]) hx hb d_Pg_putIdentifier_1 rfl hl (by decide) rfl (fun ls hl => ?_)
  refine lv_iload_n hx hb d_Pg_putIdentifier_2 rfl (lv_at hl 0 rfl) ?_
  refine lv_aload_n hx hb d_Pg_putIdentifier_3 rfl (lv_at hl 3 rfl) ?_
  refine hm_calli (va_runV (As := []) (b := rt) (rest := [.int 0]) ⟨hx, hb, hml, hown, hts⟩ (c_Node_idlen_root l D t G ak av h rt sc np f_rt) ⟨cw9B 0 hts mw_106 mw_107 mw_40 rfl rfl (by decide +kernel) ⟨Nat.le_of_ble_eq_true rfl, Nat.le_of_ble_eq_true rfl⟩, hts _ mw_108, hts _ mw_109⟩ (hP_V (q := (R_No, F_No, 11)) kE_ok hE hK hH f_rt rfl) rfl rfl hl.1 rfl (lv_room (Nat.le_of_ble_eq_true rfl)) d_Pg_putIdentifier_4 ⟨Nat.le_of_ble_eq_true rfl, Nat.le_of_ble_eq_true rfl⟩) hLo (fun r1 h2 H3 locs hp5 hH z4 hLo => ?_)
  have hz : s.heap.size ≤ H3.size := Nat.le_trans hz z4
  obtain ⟨rfl, rfl⟩ := hp5
  refine lv_icmp_ge (tgt := 28) hx hb d_Pg_putIdentifier_7 (by decide) (fun hc6 => ?_) (fun hc6 => absurd (by decide) hc6)
  exact W.vret hx hb hr (fun t9 ht hW => ⟨h, rfl, ⟨hkp, f, hfit, f_pb⟩, by rw [ht]; exact hH, by rw [ht]; exact hz⟩) hLo d_Pg_putIdentifier_28

set_option maxHeartbeats 4000000 in
set_option maxRecDepth 100000 in
theorem c_Page_putEntry_root (l : Launch) (D : va_G) (t : Nat → ClassId) (G : Heap) (ak av : Nat → Nat) (h : hM) (pg pb rt : Nat) (at_ lw sc np : Int32) (f_pg : h pg = some (.inr (3, [.ref pb]))) (hpb : pgF t h pb 2048) (f_rt : h rt = some (.inr (1, [.int 0, .null, .int 1, .long 0, .int 0, .int 0, .int 0, .int 0, .int 0, .int sc, .int np]))) : Met l y_Pg_putPathEntry (.code y_Pg_putPathEntry b_Pg_putPathEntry 6 (some .int) :: lw_g) { frames := 2, cells := 0, slots := 0, locals := 46 } (hP (kE D t G ak av) D vwCl G h [.ref pg, .int at_, .ref rt, .int lw]) (hQi D vwCl G (fun r h' => r = at_ + 8 + (1 + (1 - 1 / 2 * 2)) ∧ kp [pb] h h' ∧ pgF t h' pb 2048)) 0 0 (fun q => G.size ≤ q) := by
  refine Met.ofW (cc := b_Pg_putPathEntry) (maxL := 6) (ret := (some .int)) (by decide) rfl ?_
  intro p e s m args below meth c s₁ Bd hml hv
  obtain ⟨ha, hE, hH⟩ := hv
  have hx := Bd.exec
  have hb := Bd.bytes
  have hr := Bd.returns
  have hts : ∀ w ∈ lw_g, w.before args s = true := fun w hw => atoms_spec (ws := (.code y_Pg_putPathEntry b_Pg_putPathEntry 6 (some .int) :: lw_g)) Bd.pre w (List.mem_cons_of_mem _ hw)
  have hown : s.vm.findClass R_Pg = some m.cls := findClass_of_methodNamed Bd.named
  have hlocks := Bd.notSynchronized
  have hK := hE.1
  have hH0 := hH
  have hLo : hLc G.size [] := hLc_nil
  have hz : s.heap.size ≤ s.heap.size := Nat.le_refl _
  have hkp : kp [pb] h h := kp_rf
  have hl := lv_entry [.ref pg, .int at_, .ref rt, .int lw] (n := 6) (Nat.le_of_ble_eq_true rfl)
  rw [show entryFrame m args 6 = F0 m 0 ((lg_sl [.ref pg, .int at_, .ref rt, .int lw] ++ List.replicate (6 - (lg_sl [.ref pg, .int at_, .ref rt, .int lw]).length) Slot.unset).toArray) [] from (by rw [ha]; exact lg_entry_eq m [.ref pg, .int at_, .ref rt, .int lw] 6)]
  generalize (lg_sl [.ref pg, .int at_, .ref rt, .int lw] ++ List.replicate (6 - (lg_sl [.ref pg, .int at_, .ref rt, .int lw]).length) Slot.unset).toArray = ls at hl ⊢
  have hl : lv_has ls 6 [(0, .ref pg), (1, .int at_), (2, .ref rt), (3, .int lw)] := hl
  obtain ⟨f, hfit, f_pb⟩ := hpb
  refine lv_aload_n hx hb d_Pg_putPathEntry_0 rfl (lv_at hl 2 rfl) ?_
  refine hm_get (ci := 1) (v := .null) (C := R_No) (T := F_No) (N := 11) hx hb hts ig_No hown hK hH f_rt rfl 1 (by decide) (hts _ mw_110) (fun _ h9 => h9) rfl d_Pg_putPathEntry_1 ?_
  refine lv_ifnonnullN hx hb d_Pg_putPathEntry_4 ?_
  refine lv_iconst (v := 1) hx hb d_Pg_putPathEntry_7 (by decide) ?_
  refine lv_goto (tgt := 18) hx hb d_Pg_putPathEntry_8 (by decide) ?_
  refine lv_istore (lv' := [(4, .int 1), (0, .ref pg), (1, .int at_), (2, .ref rt), (3, .int lw)]) hx hb d_Pg_putPathEntry_18 hl (by decide) rfl (fun ls hl => ?_)
  refine lv_aload_n hx hb d_Pg_putPathEntry_20 rfl (lv_at hl 3 rfl) ?_
  refine hm_get (ci := 1) (v := .null) (C := R_No) (T := F_No) (N := 11) hx hb hts ig_No hown hK hH f_rt rfl 1 (by decide) (hts _ mw_110) (fun _ h9 => h9) rfl d_Pg_putPathEntry_21 ?_
  refine lv_ifnonnullN hx hb d_Pg_putPathEntry_24 ?_
  refine lv_iconst (v := 1) hx hb d_Pg_putPathEntry_27 (by decide) ?_
  refine lv_goto (tgt := 35) hx hb d_Pg_putPathEntry_28 (by decide) ?_
  refine lv_istore (lv' := [(5, .int 1), (4, .int 1), (0, .ref pg), (1, .int at_), (2, .ref rt), (3, .int lw)]) hx hb d_Pg_putPathEntry_35 hl (by decide) rfl (fun ls hl => ?_)
  refine lv_aload_n hx hb d_Pg_putPathEntry_37 rfl (lv_at hl 2 rfl) ?_
  refine lv_iload_n hx hb d_Pg_putPathEntry_38 rfl (lv_at hl 3 rfl) ?_
  refine lv_iload hx hb d_Pg_putPathEntry_39 (lv_at hl 0 rfl) ?_
  refine hm_callv (va_runV (As := [.int at_, .int 1]) (b := pg) (rest := []) ⟨hx, hb, hml, hown, hts⟩ (c_Page_put l D t G ak av h pg pb 2048 at_ 1 f_pg ⟨f, hfit, f_pb⟩ (by decide)) ⟨cw9B 2 hts mw_66 mw_67 mw_52 rfl rfl (by decide +kernel) ⟨Nat.le_of_ble_eq_true rfl, Nat.le_of_ble_eq_true rfl⟩, hts _ mw_68, hts _ mw_69⟩ (hP_V (q := (R_Pg, F_Pg, 1)) kE_ok hE hK hH f_pg rfl) rfl rfl hl.1 rfl (lv_room (Nat.le_of_ble_eq_true rfl)) d_Pg_putPathEntry_41 ⟨Nat.le_of_ble_eq_true rfl, Nat.le_of_ble_eq_true rfl⟩) hLo (fun h1 H2 locs hp4 hH z3 hLo => ?_)
  have hz : s.heap.size ≤ H2.size := Nat.le_trans hz z3
  obtain ⟨hk9, f, hfit, f_pb2⟩ := hp4
  have f_pg : h1 pg = some (.inr (3, [.ref pb])) := kp_at hk9 f_pg (nmc (Ne.symm (h_neA f_pb f_pg)) nm0)
  have f_rt : h1 rt = some (.inr (1, [.int 0, .null, .int 1, .long 0, .int 0, .int 0, .int 0, .int 0, .int 0, .int sc, .int np])) := kp_at hk9 f_rt (nmc (Ne.symm (h_neA f_pb f_rt)) nm0)
  have hkp : kp [pb] h h1 := kp_tr2 hkp hk9 (List.forall_mem_cons.mpr ⟨Or.inl (by simp), List.forall_mem_nil _⟩)
  have f_pb : h1 pb = some (.inl ((t 0), 2048, .inl f)) := f_pb2
  refine lv_iload_n hx hb d_Pg_putPathEntry_44 rfl (lv_at hl 5 rfl) ?_
  refine lv_if_eq (tgt := 74) hx hb d_Pg_putPathEntry_45 (by decide) (fun hc5 => ?_) (fun hc5 => ?_)
  · skip
    refine lv_aload_n hx hb d_Pg_putPathEntry_74 rfl (lv_at hl 2 rfl) ?_
    refine lv_iload_n hx hb d_Pg_putPathEntry_75 rfl (lv_at hl 3 rfl) ?_
    refine lv_iconst (v := 2) hx hb d_Pg_putPathEntry_76 (by decide) ?_
    refine lv_iadd hx hb d_Pg_putPathEntry_77 ?_
    refine lv_iconst (v := 4) hx hb d_Pg_putPathEntry_78 (by decide) ?_
    refine lv_aload_n hx hb d_Pg_putPathEntry_79 rfl (lv_at hl 4 rfl) ?_
    refine hm_get (ci := 1) (v := .int sc) (C := R_No) (T := F_No) (N := 11) hx hb hts ig_No hown hK hH f_rt rfl 9 (by decide) (hts _ mw_111) (fun _ h9 => h9) rfl d_Pg_putPathEntry_80 ?_
    refine hm_callv (va_runV (As := [.int (at_ + 2), .int 4, .int sc]) (b := pg) (rest := []) ⟨hx, hb, hml, hown, hts⟩ (c_Page_putHigh l D t G ak av h1 pg pb 2048 (at_ + 2) 4 sc f_pg ⟨f, hfit, f_pb⟩ (by decide)) ⟨cw9B 3 hts mw_112 mw_113 mw_52 rfl rfl (by decide +kernel) ⟨Nat.le_of_ble_eq_true rfl, Nat.le_of_ble_eq_true rfl⟩, hts _ mw_114, hts _ mw_115⟩ (hP_V (q := (R_Pg, F_Pg, 1)) kE_ok hE hK hH f_pg rfl) rfl rfl hl.1 rfl (lv_room (Nat.le_of_ble_eq_true rfl)) d_Pg_putPathEntry_83 ⟨Nat.le_of_ble_eq_true rfl, Nat.le_of_ble_eq_true rfl⟩) hLo (fun h6 H7 locs hp9 hH z8 hLo => ?_)
    have hz : s.heap.size ≤ H7.size := Nat.le_trans hz z8
    obtain ⟨hk9, f, hfit, f_pb2⟩ := hp9
    have f_pg : h6 pg = some (.inr (3, [.ref pb])) := kp_at hk9 f_pg (nmc (Ne.symm (h_neA f_pb f_pg)) nm0)
    have f_rt : h6 rt = some (.inr (1, [.int 0, .null, .int 1, .long 0, .int 0, .int 0, .int 0, .int 0, .int 0, .int sc, .int np])) := kp_at hk9 f_rt (nmc (Ne.symm (h_neA f_pb f_rt)) nm0)
    have hkp : kp [pb] h h6 := kp_tr2 hkp hk9 (List.forall_mem_cons.mpr ⟨Or.inl (by simp), List.forall_mem_nil _⟩)
    have f_pb : h6 pb = some (.inl ((t 0), 2048, .inl f)) := f_pb2
    refine lv_aload_n hx hb d_Pg_putPathEntry_86 rfl (lv_at hl 2 rfl) ?_
    refine lv_iload_n hx hb d_Pg_putPathEntry_87 rfl (lv_at hl 3 rfl) ?_
    refine lv_bipush (v := 6) hx hb d_Pg_putPathEntry_88 (by decide) ?_
    refine lv_iadd hx hb d_Pg_putPathEntry_90 ?_
    refine lv_iconst (v := 2) hx hb d_Pg_putPathEntry_91 (by decide) ?_
    refine lv_iload hx hb d_Pg_putPathEntry_92 (lv_at hl 1 rfl) ?_
    refine hm_callv (va_runV (As := [.int (at_ + 6), .int 2, .int 1]) (b := pg) (rest := []) ⟨hx, hb, hml, hown, hts⟩ (c_Page_putHigh l D t G ak av h6 pg pb 2048 (at_ + 6) 2 1 f_pg ⟨f, hfit, f_pb⟩ (by decide)) ⟨cw9B 3 hts mw_112 mw_113 mw_52 rfl rfl (by decide +kernel) ⟨Nat.le_of_ble_eq_true rfl, Nat.le_of_ble_eq_true rfl⟩, hts _ mw_114, hts _ mw_115⟩ (hP_V (q := (R_Pg, F_Pg, 1)) kE_ok hE hK hH f_pg rfl) rfl rfl hl.1 rfl (lv_room (Nat.le_of_ble_eq_true rfl)) d_Pg_putPathEntry_94 ⟨Nat.le_of_ble_eq_true rfl, Nat.le_of_ble_eq_true rfl⟩) hLo (fun h10 H11 locs hp13 hH z12 hLo => ?_)
    have hz : s.heap.size ≤ H11.size := Nat.le_trans hz z12
    obtain ⟨hk9, f, hfit, f_pb2⟩ := hp13
    have f_pg : h10 pg = some (.inr (3, [.ref pb])) := kp_at hk9 f_pg (nmc (Ne.symm (h_neA f_pb f_pg)) nm0)
    have f_rt : h10 rt = some (.inr (1, [.int 0, .null, .int 1, .long 0, .int 0, .int 0, .int 0, .int 0, .int 0, .int sc, .int np])) := kp_at hk9 f_rt (nmc (Ne.symm (h_neA f_pb f_rt)) nm0)
    have hkp : kp [pb] h h10 := kp_tr2 hkp hk9 (List.forall_mem_cons.mpr ⟨Or.inl (by simp), List.forall_mem_nil _⟩)
    have f_pb : h10 pb = some (.inl ((t 0), 2048, .inl f)) := f_pb2
    refine lv_aload_n hx hb d_Pg_putPathEntry_97 rfl (lv_at hl 2 rfl) ?_
    refine lv_iload_n hx hb d_Pg_putPathEntry_98 rfl (lv_at hl 3 rfl) ?_
    refine lv_bipush (v := 8) hx hb d_Pg_putPathEntry_99 (by decide) ?_
    refine lv_iadd hx hb d_Pg_putPathEntry_101 ?_
    refine lv_aload_n hx hb d_Pg_putPathEntry_102 rfl (lv_at hl 4 rfl) ?_
    refine hm_callv (va_runV (As := [.int (at_ + 8), .ref rt]) (b := pg) (rest := []) ⟨hx, hb, hml, hown, hts⟩ (c_Page_putId_root l D t G ak av h10 pg pb rt (at_ + 8) sc np f_pg ⟨f, hfit, f_pb⟩ f_rt) ⟨cw9B 2 hts mw_116 mw_117 mw_52 rfl rfl (by decide +kernel) ⟨Nat.le_of_ble_eq_true rfl, Nat.le_of_ble_eq_true rfl⟩, hts _ mw_118, hts _ mw_119⟩ (hP_V (q := (R_Pg, F_Pg, 1)) kE_ok hE hK hH f_pg rfl) rfl rfl hl.1 rfl (lv_room (Nat.le_of_ble_eq_true rfl)) d_Pg_putPathEntry_103 ⟨Nat.le_of_ble_eq_true rfl, Nat.le_of_ble_eq_true rfl⟩) hLo (fun h14 H15 locs hp17 hH z16 hLo => ?_)
    have hz : s.heap.size ≤ H15.size := Nat.le_trans hz z16
    obtain ⟨hk9, f, hfit, f_pb2⟩ := hp17
    have f_pg : h14 pg = some (.inr (3, [.ref pb])) := kp_at hk9 f_pg (nmc (Ne.symm (h_neA f_pb f_pg)) nm0)
    have f_rt : h14 rt = some (.inr (1, [.int 0, .null, .int 1, .long 0, .int 0, .int 0, .int 0, .int 0, .int 0, .int sc, .int np])) := kp_at hk9 f_rt (nmc (Ne.symm (h_neA f_pb f_rt)) nm0)
    have hkp : kp [pb] h h14 := kp_tr2 hkp hk9 (List.forall_mem_cons.mpr ⟨Or.inl (by simp), List.forall_mem_nil _⟩)
    have f_pb : h14 pb = some (.inl ((t 0), 2048, .inl f)) := f_pb2
    refine lv_iload_n hx hb d_Pg_putPathEntry_106 rfl (lv_at hl 3 rfl) ?_
    refine lv_bipush (v := 8) hx hb d_Pg_putPathEntry_107 (by decide) ?_
    refine lv_iadd hx hb d_Pg_putPathEntry_109 ?_
    refine lv_iload hx hb d_Pg_putPathEntry_110 (lv_at hl 0 rfl) ?_
    refine hm_calli (va_runSN (As := [.int 1]) (rest := [.int (at_ + 8)]) ⟨hx, hb, hml, hown, hts⟩ (c_Di_evened l D t G ak av h14 1) ⟨cw9N 1 hts mw_120 (nmU hE nM_7) mw_121 rfl rfl (by decide +kernel) ⟨Nat.le_of_ble_eq_true rfl, Nat.le_of_ble_eq_true rfl⟩, hts _ mw_122, trivial⟩ (hP_S kE_ok hE hH) rfl rfl hl.1 rfl (lv_room (Nat.le_of_ble_eq_true rfl)) d_Pg_putPathEntry_112 ⟨Nat.le_of_ble_eq_true rfl, Nat.le_of_ble_eq_true rfl⟩) hLo (fun r18 h19 H20 locs hp22 hH z21 hLo => ?_)
    have hz : s.heap.size ≤ H20.size := Nat.le_trans hz z21
    obtain ⟨rfl, rfl⟩ := hp22
    refine lv_iadd hx hb d_Pg_putPathEntry_115 ?_
    exact W.iret (v := (at_ + 8) + (1 + (1 - 1 / 2 * 2))) hx hb hr (fun t9 ht hW => ⟨(at_ + 8) + (1 + (1 - 1 / 2 * 2)), h14, rfl, ⟨rfl, hkp, f, hfit, f_pb⟩, by rw [ht]; exact hH, by rw [ht]; exact hz⟩) hLo d_Pg_putPathEntry_116
  · skip
    refine lv_aload_n hx hb d_Pg_putPathEntry_48 rfl (lv_at hl 2 rfl) ?_
    refine lv_iload_n hx hb d_Pg_putPathEntry_49 rfl (lv_at hl 3 rfl) ?_
    refine lv_iconst (v := 2) hx hb d_Pg_putPathEntry_50 (by decide) ?_
    refine lv_iadd hx hb d_Pg_putPathEntry_51 ?_
    refine lv_iconst (v := 4) hx hb d_Pg_putPathEntry_52 (by decide) ?_
    refine lv_aload_n hx hb d_Pg_putPathEntry_53 rfl (lv_at hl 4 rfl) ?_
    refine hm_get (ci := 1) (v := .int sc) (C := R_No) (T := F_No) (N := 11) hx hb hts ig_No hown hK hH f_rt rfl 9 (by decide) (hts _ mw_111) (fun _ h9 => h9) rfl d_Pg_putPathEntry_54 ?_
    refine hm_callv (va_runV (As := [.int (at_ + 2), .int 4, .int sc]) (b := pg) (rest := []) ⟨hx, hb, hml, hown, hts⟩ (c_Page_putLow l D t G ak av h1 pg pb 2048 (at_ + 2) 4 sc f_pg ⟨f, hfit, f_pb⟩ (by decide)) ⟨cw9B 3 hts mw_123 mw_124 mw_52 rfl rfl (by decide +kernel) ⟨Nat.le_of_ble_eq_true rfl, Nat.le_of_ble_eq_true rfl⟩, hts _ mw_125, hts _ mw_126⟩ (hP_V (q := (R_Pg, F_Pg, 1)) kE_ok hE hK hH f_pg rfl) rfl rfl hl.1 rfl (lv_room (Nat.le_of_ble_eq_true rfl)) d_Pg_putPathEntry_57 ⟨Nat.le_of_ble_eq_true rfl, Nat.le_of_ble_eq_true rfl⟩) hLo (fun h23 H24 locs hp26 hH z25 hLo => ?_)
    have hz : s.heap.size ≤ H24.size := Nat.le_trans hz z25
    obtain ⟨hk9, f, hfit, f_pb2⟩ := hp26
    have f_pg : h23 pg = some (.inr (3, [.ref pb])) := kp_at hk9 f_pg (nmc (Ne.symm (h_neA f_pb f_pg)) nm0)
    have f_rt : h23 rt = some (.inr (1, [.int 0, .null, .int 1, .long 0, .int 0, .int 0, .int 0, .int 0, .int 0, .int sc, .int np])) := kp_at hk9 f_rt (nmc (Ne.symm (h_neA f_pb f_rt)) nm0)
    have hkp : kp [pb] h h23 := kp_tr2 hkp hk9 (List.forall_mem_cons.mpr ⟨Or.inl (by simp), List.forall_mem_nil _⟩)
    have f_pb : h23 pb = some (.inl ((t 0), 2048, .inl f)) := f_pb2
    refine lv_aload_n hx hb d_Pg_putPathEntry_60 rfl (lv_at hl 2 rfl) ?_
    refine lv_iload_n hx hb d_Pg_putPathEntry_61 rfl (lv_at hl 3 rfl) ?_
    refine lv_bipush (v := 6) hx hb d_Pg_putPathEntry_62 (by decide) ?_
    refine lv_iadd hx hb d_Pg_putPathEntry_64 ?_
    refine lv_iconst (v := 2) hx hb d_Pg_putPathEntry_65 (by decide) ?_
    refine lv_iload hx hb d_Pg_putPathEntry_66 (lv_at hl 1 rfl) ?_
    refine hm_callv (va_runV (As := [.int (at_ + 6), .int 2, .int 1]) (b := pg) (rest := []) ⟨hx, hb, hml, hown, hts⟩ (c_Page_putLow l D t G ak av h23 pg pb 2048 (at_ + 6) 2 1 f_pg ⟨f, hfit, f_pb⟩ (by decide)) ⟨cw9B 3 hts mw_123 mw_124 mw_52 rfl rfl (by decide +kernel) ⟨Nat.le_of_ble_eq_true rfl, Nat.le_of_ble_eq_true rfl⟩, hts _ mw_125, hts _ mw_126⟩ (hP_V (q := (R_Pg, F_Pg, 1)) kE_ok hE hK hH f_pg rfl) rfl rfl hl.1 rfl (lv_room (Nat.le_of_ble_eq_true rfl)) d_Pg_putPathEntry_68 ⟨Nat.le_of_ble_eq_true rfl, Nat.le_of_ble_eq_true rfl⟩) hLo (fun h27 H28 locs hp30 hH z29 hLo => ?_)
    have hz : s.heap.size ≤ H28.size := Nat.le_trans hz z29
    obtain ⟨hk9, f, hfit, f_pb2⟩ := hp30
    have f_pg : h27 pg = some (.inr (3, [.ref pb])) := kp_at hk9 f_pg (nmc (Ne.symm (h_neA f_pb f_pg)) nm0)
    have f_rt : h27 rt = some (.inr (1, [.int 0, .null, .int 1, .long 0, .int 0, .int 0, .int 0, .int 0, .int 0, .int sc, .int np])) := kp_at hk9 f_rt (nmc (Ne.symm (h_neA f_pb f_rt)) nm0)
    have hkp : kp [pb] h h27 := kp_tr2 hkp hk9 (List.forall_mem_cons.mpr ⟨Or.inl (by simp), List.forall_mem_nil _⟩)
    have f_pb : h27 pb = some (.inl ((t 0), 2048, .inl f)) := f_pb2
    refine lv_goto (tgt := 97) hx hb d_Pg_putPathEntry_71 (by decide) ?_
    refine lv_aload_n hx hb d_Pg_putPathEntry_97 rfl (lv_at hl 2 rfl) ?_
    refine lv_iload_n hx hb d_Pg_putPathEntry_98 rfl (lv_at hl 3 rfl) ?_
    refine lv_bipush (v := 8) hx hb d_Pg_putPathEntry_99 (by decide) ?_
    refine lv_iadd hx hb d_Pg_putPathEntry_101 ?_
    refine lv_aload_n hx hb d_Pg_putPathEntry_102 rfl (lv_at hl 4 rfl) ?_
    refine hm_callv (va_runV (As := [.int (at_ + 8), .ref rt]) (b := pg) (rest := []) ⟨hx, hb, hml, hown, hts⟩ (c_Page_putId_root l D t G ak av h27 pg pb rt (at_ + 8) sc np f_pg ⟨f, hfit, f_pb⟩ f_rt) ⟨cw9B 2 hts mw_116 mw_117 mw_52 rfl rfl (by decide +kernel) ⟨Nat.le_of_ble_eq_true rfl, Nat.le_of_ble_eq_true rfl⟩, hts _ mw_118, hts _ mw_119⟩ (hP_V (q := (R_Pg, F_Pg, 1)) kE_ok hE hK hH f_pg rfl) rfl rfl hl.1 rfl (lv_room (Nat.le_of_ble_eq_true rfl)) d_Pg_putPathEntry_103 ⟨Nat.le_of_ble_eq_true rfl, Nat.le_of_ble_eq_true rfl⟩) hLo (fun h31 H32 locs hp34 hH z33 hLo => ?_)
    have hz : s.heap.size ≤ H32.size := Nat.le_trans hz z33
    obtain ⟨hk9, f, hfit, f_pb2⟩ := hp34
    have f_pg : h31 pg = some (.inr (3, [.ref pb])) := kp_at hk9 f_pg (nmc (Ne.symm (h_neA f_pb f_pg)) nm0)
    have f_rt : h31 rt = some (.inr (1, [.int 0, .null, .int 1, .long 0, .int 0, .int 0, .int 0, .int 0, .int 0, .int sc, .int np])) := kp_at hk9 f_rt (nmc (Ne.symm (h_neA f_pb f_rt)) nm0)
    have hkp : kp [pb] h h31 := kp_tr2 hkp hk9 (List.forall_mem_cons.mpr ⟨Or.inl (by simp), List.forall_mem_nil _⟩)
    have f_pb : h31 pb = some (.inl ((t 0), 2048, .inl f)) := f_pb2
    refine lv_iload_n hx hb d_Pg_putPathEntry_106 rfl (lv_at hl 3 rfl) ?_
    refine lv_bipush (v := 8) hx hb d_Pg_putPathEntry_107 (by decide) ?_
    refine lv_iadd hx hb d_Pg_putPathEntry_109 ?_
    refine lv_iload hx hb d_Pg_putPathEntry_110 (lv_at hl 0 rfl) ?_
    refine hm_calli (va_runSN (As := [.int 1]) (rest := [.int (at_ + 8)]) ⟨hx, hb, hml, hown, hts⟩ (c_Di_evened l D t G ak av h31 1) ⟨cw9N 1 hts mw_120 (nmU hE nM_7) mw_121 rfl rfl (by decide +kernel) ⟨Nat.le_of_ble_eq_true rfl, Nat.le_of_ble_eq_true rfl⟩, hts _ mw_122, trivial⟩ (hP_S kE_ok hE hH) rfl rfl hl.1 rfl (lv_room (Nat.le_of_ble_eq_true rfl)) d_Pg_putPathEntry_112 ⟨Nat.le_of_ble_eq_true rfl, Nat.le_of_ble_eq_true rfl⟩) hLo (fun r35 h36 H37 locs hp39 hH z38 hLo => ?_)
    have hz : s.heap.size ≤ H37.size := Nat.le_trans hz z38
    obtain ⟨rfl, rfl⟩ := hp39
    refine lv_iadd hx hb d_Pg_putPathEntry_115 ?_
    exact W.iret (v := (at_ + 8) + (1 + (1 - 1 / 2 * 2))) hx hb hr (fun t9 ht hW => ⟨(at_ + 8) + (1 + (1 - 1 / 2 * 2)), h31, rfl, ⟨rfl, hkp, f, hfit, f_pb⟩, by rw [ht]; exact hH, by rw [ht]; exact hz⟩) hLo d_Pg_putPathEntry_116

set_option maxHeartbeats 4000000 in
set_option maxRecDepth 100000 in
theorem c_Page_putRecord_root0 (l : Launch) (D : va_G) (t : Nat → ClassId) (G : Heap) (ak av : Nat → Nat) (h : hM) (pg pb rt : Nat) (at_ sc np : Int32) (f_pg : h pg = some (.inr (3, [.ref pb]))) (hpb : pgF t h pb 2048) (f_rt : h rt = some (.inr (1, [.int 0, .null, .int 1, .long 0, .int 0, .int 0, .int 0, .int 0, .int 0, .int sc, .int np]))) : Met l y_Pg_putRecord (.code y_Pg_putRecord b_Pg_putRecord 6 (some .int) :: lw_g) { frames := 2, cells := 0, slots := 0, locals := 46 } (hP (kE D t G ak av) D vwCl G h [.ref pg, .int at_, .ref rt, .int 0]) (hQi D vwCl G (fun r h' => r = at_ + 34 ∧ kp [pb] h h' ∧ pgF t h' pb 2048)) 0 0 (fun q => G.size ≤ q) := by
  refine Met.ofW (cc := b_Pg_putRecord) (maxL := 6) (ret := (some .int)) (by decide) rfl ?_
  intro p e s m args below meth c s₁ Bd hml hv
  obtain ⟨ha, hE, hH⟩ := hv
  have hx := Bd.exec
  have hb := Bd.bytes
  have hr := Bd.returns
  have hts : ∀ w ∈ lw_g, w.before args s = true := fun w hw => atoms_spec (ws := (.code y_Pg_putRecord b_Pg_putRecord 6 (some .int) :: lw_g)) Bd.pre w (List.mem_cons_of_mem _ hw)
  have hown : s.vm.findClass R_Pg = some m.cls := findClass_of_methodNamed Bd.named
  have hlocks := Bd.notSynchronized
  have hK := hE.1
  have hH0 := hH
  have hLo : hLc G.size [] := hLc_nil
  have hz : s.heap.size ≤ s.heap.size := Nat.le_refl _
  have hkp : kp [pb] h h := kp_rf
  have hl := lv_entry [.ref pg, .int at_, .ref rt, .int 0] (n := 6) (Nat.le_of_ble_eq_true rfl)
  rw [show entryFrame m args 6 = F0 m 0 ((lg_sl [.ref pg, .int at_, .ref rt, .int 0] ++ List.replicate (6 - (lg_sl [.ref pg, .int at_, .ref rt, .int 0]).length) Slot.unset).toArray) [] from (by rw [ha]; exact lg_entry_eq m [.ref pg, .int at_, .ref rt, .int 0] 6)]
  generalize (lg_sl [.ref pg, .int at_, .ref rt, .int 0] ++ List.replicate (6 - (lg_sl [.ref pg, .int at_, .ref rt, .int 0]).length) Slot.unset).toArray = ls at hl ⊢
  have hl : lv_has ls 6 [(0, .ref pg), (1, .int at_), (2, .ref rt), (3, .int 0)] := hl
  obtain ⟨f, hfit, f_pb⟩ := hpb
  refine lv_iload_n hx hb d_Pg_putRecord_0 rfl (lv_at hl 3 rfl) ?_
  refine lv_iconst (v := -1) hx hb d_Pg_putRecord_1 (by decide) ?_
  refine lv_icmp_ne (tgt := 12) hx hb d_Pg_putRecord_2 (by decide) (fun hc1 => ?_) (fun hc1 => absurd hc1 (by decide))
  refine lv_iconst (v := 1) hx hb d_Pg_putRecord_12 (by decide) ?_
  refine lv_istore (lv' := [(4, .int 1), (0, .ref pg), (1, .int at_), (2, .ref rt), (3, .int 0)]) hx hb d_Pg_putRecord_13 hl (by decide) rfl (fun ls hl => ?_)
  refine lv_bipush (v := 33) hx hb d_Pg_putRecord_15 (by decide) ?_
  refine lv_iload hx hb d_Pg_putRecord_17 (lv_at hl 0 rfl) ?_
  refine lv_iadd hx hb d_Pg_putRecord_19 ?_
  refine hm_calli (va_runSN (As := [.int (33 + 1)]) (rest := []) ⟨hx, hb, hml, hown, hts⟩ (c_Di_evened l D t G ak av h (33 + 1)) ⟨cw9N 1 hts mw_120 (nmU hE nM_7) mw_121 rfl rfl (by decide +kernel) ⟨Nat.le_of_ble_eq_true rfl, Nat.le_of_ble_eq_true rfl⟩, hts _ mw_122, trivial⟩ (hP_S kE_ok hE hH) rfl rfl hl.1 rfl (lv_room (Nat.le_of_ble_eq_true rfl)) d_Pg_putRecord_20 ⟨Nat.le_of_ble_eq_true rfl, Nat.le_of_ble_eq_true rfl⟩) hLo (fun r2 h3 H4 locs hp6 hH z5 hLo => ?_)
  have hz : s.heap.size ≤ H4.size := Nat.le_trans hz z5
  obtain ⟨rfl, rfl⟩ := hp6
  refine lv_topi (fun v7 e8 => ?_)
  obtain rfl : v7 = 34 := e8.trans (by decide)
  refine lv_istore (lv' := [(5, .int 34), (4, .int 1), (0, .ref pg), (1, .int at_), (2, .ref rt), (3, .int 0)]) hx hb d_Pg_putRecord_23 hl (by decide) rfl (fun ls hl => ?_)
  refine lv_aload_n hx hb d_Pg_putRecord_25 rfl (lv_at hl 2 rfl) ?_
  refine lv_iload_n hx hb d_Pg_putRecord_26 rfl (lv_at hl 3 rfl) ?_
  refine lv_iload hx hb d_Pg_putRecord_27 (lv_at hl 0 rfl) ?_
  refine hm_callv (va_runV (As := [.int at_, .int 34]) (b := pg) (rest := []) ⟨hx, hb, hml, hown, hts⟩ (c_Page_put l D t G ak av h pg pb 2048 at_ 34 f_pg ⟨f, hfit, f_pb⟩ (by decide)) ⟨cw9B 2 hts mw_66 mw_67 mw_52 rfl rfl (by decide +kernel) ⟨Nat.le_of_ble_eq_true rfl, Nat.le_of_ble_eq_true rfl⟩, hts _ mw_68, hts _ mw_69⟩ (hP_V (q := (R_Pg, F_Pg, 1)) kE_ok hE hK hH f_pg rfl) rfl rfl hl.1 rfl (lv_room (Nat.le_of_ble_eq_true rfl)) d_Pg_putRecord_29 ⟨Nat.le_of_ble_eq_true rfl, Nat.le_of_ble_eq_true rfl⟩) hLo (fun h9 H10 locs hp12 hH z11 hLo => ?_)
  have hz : s.heap.size ≤ H10.size := Nat.le_trans hz z11
  obtain ⟨hk9, f, hfit, f_pb2⟩ := hp12
  have f_pg : h9 pg = some (.inr (3, [.ref pb])) := kp_at hk9 f_pg (nmc (Ne.symm (h_neA f_pb f_pg)) nm0)
  have f_rt : h9 rt = some (.inr (1, [.int 0, .null, .int 1, .long 0, .int 0, .int 0, .int 0, .int 0, .int 0, .int sc, .int np])) := kp_at hk9 f_rt (nmc (Ne.symm (h_neA f_pb f_rt)) nm0)
  have hkp : kp [pb] h h9 := kp_tr2 hkp hk9 (List.forall_mem_cons.mpr ⟨Or.inl (by simp), List.forall_mem_nil _⟩)
  have f_pb : h9 pb = some (.inl ((t 0), 2048, .inl f)) := f_pb2
  refine lv_aload_n hx hb d_Pg_putRecord_32 rfl (lv_at hl 2 rfl) ?_
  refine lv_iload_n hx hb d_Pg_putRecord_33 rfl (lv_at hl 3 rfl) ?_
  refine lv_iconst (v := 2) hx hb d_Pg_putRecord_34 (by decide) ?_
  refine lv_iadd hx hb d_Pg_putRecord_35 ?_
  refine lv_iconst (v := 4) hx hb d_Pg_putRecord_36 (by decide) ?_
  refine lv_aload_n hx hb d_Pg_putRecord_37 rfl (lv_at hl 4 rfl) ?_
  refine hm_get (ci := 1) (v := .int sc) (C := R_No) (T := F_No) (N := 11) hx hb hts ig_No hown hK hH f_rt rfl 9 (by decide) (hts _ mw_111) (fun _ h9 => h9) rfl d_Pg_putRecord_38 ?_
  refine hm_callv (va_runV (As := [.int (at_ + 2), .int 4, .int sc]) (b := pg) (rest := []) ⟨hx, hb, hml, hown, hts⟩ (c_Page_putBoth l D t G ak av h9 pg pb 2048 (at_ + 2) 4 sc f_pg ⟨f, hfit, f_pb⟩ (by decide)) ⟨cw9B 3 hts mw_127 mw_128 mw_52 rfl rfl (by decide +kernel) ⟨Nat.le_of_ble_eq_true rfl, Nat.le_of_ble_eq_true rfl⟩, hts _ mw_129, hts _ mw_130⟩ (hP_V (q := (R_Pg, F_Pg, 1)) kE_ok hE hK hH f_pg rfl) rfl rfl hl.1 rfl (lv_room (Nat.le_of_ble_eq_true rfl)) d_Pg_putRecord_41 ⟨Nat.le_of_ble_eq_true rfl, Nat.le_of_ble_eq_true rfl⟩) hLo (fun h13 H14 locs hp16 hH z15 hLo => ?_)
  have hz : s.heap.size ≤ H14.size := Nat.le_trans hz z15
  obtain ⟨hk9, f, hfit, f_pb2⟩ := hp16
  have f_pg : h13 pg = some (.inr (3, [.ref pb])) := kp_at hk9 f_pg (nmc (Ne.symm (h_neA f_pb f_pg)) nm0)
  have f_rt : h13 rt = some (.inr (1, [.int 0, .null, .int 1, .long 0, .int 0, .int 0, .int 0, .int 0, .int 0, .int sc, .int np])) := kp_at hk9 f_rt (nmc (Ne.symm (h_neA f_pb f_rt)) nm0)
  have hkp : kp [pb] h h13 := kp_tr2 hkp hk9 (List.forall_mem_cons.mpr ⟨Or.inl (by simp), List.forall_mem_nil _⟩)
  have f_pb : h13 pb = some (.inl ((t 0), 2048, .inl f)) := f_pb2
  refine lv_aload_n hx hb d_Pg_putRecord_44 rfl (lv_at hl 2 rfl) ?_
  refine lv_iload_n hx hb d_Pg_putRecord_45 rfl (lv_at hl 3 rfl) ?_
  refine lv_bipush (v := 10) hx hb d_Pg_putRecord_46 (by decide) ?_
  refine lv_iadd hx hb d_Pg_putRecord_48 ?_
  refine lv_iconst (v := 4) hx hb d_Pg_putRecord_49 (by decide) ?_
  refine lv_aload_n hx hb d_Pg_putRecord_50 rfl (lv_at hl 4 rfl) ?_
  refine hm_get (ci := 1) (v := .int 1) (C := R_No) (T := F_No) (N := 11) hx hb hts ig_No hown hK hH f_rt rfl 2 (by decide) (hts _ mw_131) (fun _ h9 => h9) rfl d_Pg_putRecord_51 ?_
  refine lv_if_eq (tgt := 63) hx hb d_Pg_putRecord_54 (by decide) (fun hc17 => absurd hc17 (by decide)) (fun hc17 => ?_)
  refine lv_sipush (v := 2048) hx hb d_Pg_putRecord_57 (by decide) ?_
  refine lv_goto (tgt := 67) hx hb d_Pg_putRecord_60 (by decide) ?_
  refine hm_callv (va_runV (As := [.int (at_ + 10), .int 4, .int 2048]) (b := pg) (rest := []) ⟨hx, hb, hml, hown, hts⟩ (c_Page_putBoth l D t G ak av h13 pg pb 2048 (at_ + 10) 4 2048 f_pg ⟨f, hfit, f_pb⟩ (by decide)) ⟨cw9B 3 hts mw_127 mw_128 mw_52 rfl rfl (by decide +kernel) ⟨Nat.le_of_ble_eq_true rfl, Nat.le_of_ble_eq_true rfl⟩, hts _ mw_129, hts _ mw_130⟩ (hP_V (q := (R_Pg, F_Pg, 1)) kE_ok hE hK hH f_pg rfl) rfl rfl hl.1 rfl (lv_room (Nat.le_of_ble_eq_true rfl)) d_Pg_putRecord_67 ⟨Nat.le_of_ble_eq_true rfl, Nat.le_of_ble_eq_true rfl⟩) hLo (fun h18 H19 locs hp21 hH z20 hLo => ?_)
  have hz : s.heap.size ≤ H19.size := Nat.le_trans hz z20
  obtain ⟨hk9, f, hfit, f_pb2⟩ := hp21
  have f_pg : h18 pg = some (.inr (3, [.ref pb])) := kp_at hk9 f_pg (nmc (Ne.symm (h_neA f_pb f_pg)) nm0)
  have f_rt : h18 rt = some (.inr (1, [.int 0, .null, .int 1, .long 0, .int 0, .int 0, .int 0, .int 0, .int 0, .int sc, .int np])) := kp_at hk9 f_rt (nmc (Ne.symm (h_neA f_pb f_rt)) nm0)
  have hkp : kp [pb] h h18 := kp_tr2 hkp hk9 (List.forall_mem_cons.mpr ⟨Or.inl (by simp), List.forall_mem_nil _⟩)
  have f_pb : h18 pb = some (.inl ((t 0), 2048, .inl f)) := f_pb2
  refine lv_aload_n hx hb d_Pg_putRecord_70 rfl (lv_at hl 2 rfl) ?_
  refine lv_iload_n hx hb d_Pg_putRecord_71 rfl (lv_at hl 3 rfl) ?_
  refine lv_bipush (v := 25) hx hb d_Pg_putRecord_72 (by decide) ?_
  refine lv_iadd hx hb d_Pg_putRecord_74 ?_
  refine lv_aload_n hx hb d_Pg_putRecord_75 rfl (lv_at hl 4 rfl) ?_
  refine hm_get (ci := 1) (v := .int 1) (C := R_No) (T := F_No) (N := 11) hx hb hts ig_No hown hK hH f_rt rfl 2 (by decide) (hts _ mw_131) (fun _ h9 => h9) rfl d_Pg_putRecord_76 ?_
  refine lv_if_eq (tgt := 86) hx hb d_Pg_putRecord_79 (by decide) (fun hc22 => absurd hc22 (by decide)) (fun hc22 => ?_)
  refine lv_iconst (v := 2) hx hb d_Pg_putRecord_82 (by decide) ?_
  refine lv_goto (tgt := 87) hx hb d_Pg_putRecord_83 (by decide) ?_
  refine hm_callv (va_runV (As := [.int (at_ + 25), .int 2]) (b := pg) (rest := []) ⟨hx, hb, hml, hown, hts⟩ (c_Page_put l D t G ak av h18 pg pb 2048 (at_ + 25) 2 f_pg ⟨f, hfit, f_pb⟩ (by decide)) ⟨cw9B 2 hts mw_66 mw_67 mw_52 rfl rfl (by decide +kernel) ⟨Nat.le_of_ble_eq_true rfl, Nat.le_of_ble_eq_true rfl⟩, hts _ mw_68, hts _ mw_69⟩ (hP_V (q := (R_Pg, F_Pg, 1)) kE_ok hE hK hH f_pg rfl) rfl rfl hl.1 rfl (lv_room (Nat.le_of_ble_eq_true rfl)) d_Pg_putRecord_87 ⟨Nat.le_of_ble_eq_true rfl, Nat.le_of_ble_eq_true rfl⟩) hLo (fun h23 H24 locs hp26 hH z25 hLo => ?_)
  have hz : s.heap.size ≤ H24.size := Nat.le_trans hz z25
  obtain ⟨hk9, f, hfit, f_pb2⟩ := hp26
  have f_pg : h23 pg = some (.inr (3, [.ref pb])) := kp_at hk9 f_pg (nmc (Ne.symm (h_neA f_pb f_pg)) nm0)
  have f_rt : h23 rt = some (.inr (1, [.int 0, .null, .int 1, .long 0, .int 0, .int 0, .int 0, .int 0, .int 0, .int sc, .int np])) := kp_at hk9 f_rt (nmc (Ne.symm (h_neA f_pb f_rt)) nm0)
  have hkp : kp [pb] h h23 := kp_tr2 hkp hk9 (List.forall_mem_cons.mpr ⟨Or.inl (by simp), List.forall_mem_nil _⟩)
  have f_pb : h23 pb = some (.inl ((t 0), 2048, .inl f)) := f_pb2
  refine lv_aload_n hx hb d_Pg_putRecord_90 rfl (lv_at hl 2 rfl) ?_
  refine lv_iload_n hx hb d_Pg_putRecord_91 rfl (lv_at hl 3 rfl) ?_
  refine lv_bipush (v := 28) hx hb d_Pg_putRecord_92 (by decide) ?_
  refine lv_iadd hx hb d_Pg_putRecord_94 ?_
  refine lv_iconst (v := 2) hx hb d_Pg_putRecord_95 (by decide) ?_
  refine lv_iconst (v := 1) hx hb d_Pg_putRecord_96 (by decide) ?_
  refine hm_callv (va_runV (As := [.int (at_ + 28), .int 2, .int 1]) (b := pg) (rest := []) ⟨hx, hb, hml, hown, hts⟩ (c_Page_putBoth l D t G ak av h23 pg pb 2048 (at_ + 28) 2 1 f_pg ⟨f, hfit, f_pb⟩ (by decide)) ⟨cw9B 3 hts mw_127 mw_128 mw_52 rfl rfl (by decide +kernel) ⟨Nat.le_of_ble_eq_true rfl, Nat.le_of_ble_eq_true rfl⟩, hts _ mw_129, hts _ mw_130⟩ (hP_V (q := (R_Pg, F_Pg, 1)) kE_ok hE hK hH f_pg rfl) rfl rfl hl.1 rfl (lv_room (Nat.le_of_ble_eq_true rfl)) d_Pg_putRecord_97 ⟨Nat.le_of_ble_eq_true rfl, Nat.le_of_ble_eq_true rfl⟩) hLo (fun h27 H28 locs hp30 hH z29 hLo => ?_)
  have hz : s.heap.size ≤ H28.size := Nat.le_trans hz z29
  obtain ⟨hk9, f, hfit, f_pb2⟩ := hp30
  have f_pg : h27 pg = some (.inr (3, [.ref pb])) := kp_at hk9 f_pg (nmc (Ne.symm (h_neA f_pb f_pg)) nm0)
  have f_rt : h27 rt = some (.inr (1, [.int 0, .null, .int 1, .long 0, .int 0, .int 0, .int 0, .int 0, .int 0, .int sc, .int np])) := kp_at hk9 f_rt (nmc (Ne.symm (h_neA f_pb f_rt)) nm0)
  have hkp : kp [pb] h h27 := kp_tr2 hkp hk9 (List.forall_mem_cons.mpr ⟨Or.inl (by simp), List.forall_mem_nil _⟩)
  have f_pb : h27 pb = some (.inl ((t 0), 2048, .inl f)) := f_pb2
  refine lv_aload_n hx hb d_Pg_putRecord_100 rfl (lv_at hl 2 rfl) ?_
  refine lv_iload_n hx hb d_Pg_putRecord_101 rfl (lv_at hl 3 rfl) ?_
  refine lv_bipush (v := 32) hx hb d_Pg_putRecord_102 (by decide) ?_
  refine lv_iadd hx hb d_Pg_putRecord_104 ?_
  refine lv_iload hx hb d_Pg_putRecord_105 (lv_at hl 1 rfl) ?_
  refine hm_callv (va_runV (As := [.int (at_ + 32), .int 1]) (b := pg) (rest := []) ⟨hx, hb, hml, hown, hts⟩ (c_Page_put l D t G ak av h27 pg pb 2048 (at_ + 32) 1 f_pg ⟨f, hfit, f_pb⟩ (by decide)) ⟨cw9B 2 hts mw_66 mw_67 mw_52 rfl rfl (by decide +kernel) ⟨Nat.le_of_ble_eq_true rfl, Nat.le_of_ble_eq_true rfl⟩, hts _ mw_68, hts _ mw_69⟩ (hP_V (q := (R_Pg, F_Pg, 1)) kE_ok hE hK hH f_pg rfl) rfl rfl hl.1 rfl (lv_room (Nat.le_of_ble_eq_true rfl)) d_Pg_putRecord_107 ⟨Nat.le_of_ble_eq_true rfl, Nat.le_of_ble_eq_true rfl⟩) hLo (fun h31 H32 locs hp34 hH z33 hLo => ?_)
  have hz : s.heap.size ≤ H32.size := Nat.le_trans hz z33
  obtain ⟨hk9, f, hfit, f_pb2⟩ := hp34
  have f_pg : h31 pg = some (.inr (3, [.ref pb])) := kp_at hk9 f_pg (nmc (Ne.symm (h_neA f_pb f_pg)) nm0)
  have f_rt : h31 rt = some (.inr (1, [.int 0, .null, .int 1, .long 0, .int 0, .int 0, .int 0, .int 0, .int 0, .int sc, .int np])) := kp_at hk9 f_rt (nmc (Ne.symm (h_neA f_pb f_rt)) nm0)
  have hkp : kp [pb] h h31 := kp_tr2 hkp hk9 (List.forall_mem_cons.mpr ⟨Or.inl (by simp), List.forall_mem_nil _⟩)
  have f_pb : h31 pb = some (.inl ((t 0), 2048, .inl f)) := f_pb2
  refine lv_iload_n hx hb d_Pg_putRecord_110 rfl (lv_at hl 5 rfl) ?_
  refine lv_iconst (v := -1) hx hb d_Pg_putRecord_111 (by decide) ?_
  refine lv_icmp_ne (tgt := 127) hx hb d_Pg_putRecord_112 (by decide) (fun hc35 => ?_) (fun hc35 => absurd hc35 (by decide))
  refine lv_aload_n hx hb d_Pg_putRecord_127 rfl (lv_at hl 2 rfl) ?_
  refine lv_iload_n hx hb d_Pg_putRecord_128 rfl (lv_at hl 3 rfl) ?_
  refine lv_bipush (v := 33) hx hb d_Pg_putRecord_129 (by decide) ?_
  refine lv_iadd hx hb d_Pg_putRecord_131 ?_
  refine lv_iload_n hx hb d_Pg_putRecord_132 rfl (lv_at hl 5 rfl) ?_
  refine hm_callv (va_runV (As := [.int (at_ + 33), .int 0]) (b := pg) (rest := []) ⟨hx, hb, hml, hown, hts⟩ (c_Page_put l D t G ak av h31 pg pb 2048 (at_ + 33) 0 f_pg ⟨f, hfit, f_pb⟩ (by decide)) ⟨cw9B 2 hts mw_66 mw_67 mw_52 rfl rfl (by decide +kernel) ⟨Nat.le_of_ble_eq_true rfl, Nat.le_of_ble_eq_true rfl⟩, hts _ mw_68, hts _ mw_69⟩ (hP_V (q := (R_Pg, F_Pg, 1)) kE_ok hE hK hH f_pg rfl) rfl rfl hl.1 rfl (lv_room (Nat.le_of_ble_eq_true rfl)) d_Pg_putRecord_133 ⟨Nat.le_of_ble_eq_true rfl, Nat.le_of_ble_eq_true rfl⟩) hLo (fun h36 H37 locs hp39 hH z38 hLo => ?_)
  have hz : s.heap.size ≤ H37.size := Nat.le_trans hz z38
  obtain ⟨hk9, f, hfit, f_pb2⟩ := hp39
  have f_pg : h36 pg = some (.inr (3, [.ref pb])) := kp_at hk9 f_pg (nmc (Ne.symm (h_neA f_pb f_pg)) nm0)
  have f_rt : h36 rt = some (.inr (1, [.int 0, .null, .int 1, .long 0, .int 0, .int 0, .int 0, .int 0, .int 0, .int sc, .int np])) := kp_at hk9 f_rt (nmc (Ne.symm (h_neA f_pb f_rt)) nm0)
  have hkp : kp [pb] h h36 := kp_tr2 hkp hk9 (List.forall_mem_cons.mpr ⟨Or.inl (by simp), List.forall_mem_nil _⟩)
  have f_pb : h36 pb = some (.inl ((t 0), 2048, .inl f)) := f_pb2
  refine lv_iload_n hx hb d_Pg_putRecord_136 rfl (lv_at hl 3 rfl) ?_
  refine lv_iload hx hb d_Pg_putRecord_137 (lv_at hl 0 rfl) ?_
  refine lv_iadd hx hb d_Pg_putRecord_139 ?_
  exact W.iret (v := at_ + 34) hx hb hr (fun t9 ht hW => ⟨at_ + 34, h36, rfl, ⟨rfl, hkp, f, hfit, f_pb⟩, by rw [ht]; exact hH, by rw [ht]; exact hz⟩) hLo d_Pg_putRecord_140

set_option maxHeartbeats 4000000 in
set_option maxRecDepth 100000 in
theorem c_Page_putRecord_root1 (l : Launch) (D : va_G) (t : Nat → ClassId) (G : Heap) (ak av : Nat → Nat) (h : hM) (pg pb rt : Nat) (at_ sc np : Int32) (f_pg : h pg = some (.inr (3, [.ref pb]))) (hpb : pgF t h pb 2048) (f_rt : h rt = some (.inr (1, [.int 0, .null, .int 1, .long 0, .int 0, .int 0, .int 0, .int 0, .int 0, .int sc, .int np]))) : Met l y_Pg_putRecord (.code y_Pg_putRecord b_Pg_putRecord 6 (some .int) :: lw_g) { frames := 2, cells := 0, slots := 0, locals := 46 } (hP (kE D t G ak av) D vwCl G h [.ref pg, .int at_, .ref rt, .int 1]) (hQi D vwCl G (fun r h' => r = at_ + 34 ∧ kp [pb] h h' ∧ pgF t h' pb 2048)) 0 0 (fun q => G.size ≤ q) := by
  refine Met.ofW (cc := b_Pg_putRecord) (maxL := 6) (ret := (some .int)) (by decide) rfl ?_
  intro p e s m args below meth c s₁ Bd hml hv
  obtain ⟨ha, hE, hH⟩ := hv
  have hx := Bd.exec
  have hb := Bd.bytes
  have hr := Bd.returns
  have hts : ∀ w ∈ lw_g, w.before args s = true := fun w hw => atoms_spec (ws := (.code y_Pg_putRecord b_Pg_putRecord 6 (some .int) :: lw_g)) Bd.pre w (List.mem_cons_of_mem _ hw)
  have hown : s.vm.findClass R_Pg = some m.cls := findClass_of_methodNamed Bd.named
  have hlocks := Bd.notSynchronized
  have hK := hE.1
  have hH0 := hH
  have hLo : hLc G.size [] := hLc_nil
  have hz : s.heap.size ≤ s.heap.size := Nat.le_refl _
  have hkp : kp [pb] h h := kp_rf
  have hl := lv_entry [.ref pg, .int at_, .ref rt, .int 1] (n := 6) (Nat.le_of_ble_eq_true rfl)
  rw [show entryFrame m args 6 = F0 m 0 ((lg_sl [.ref pg, .int at_, .ref rt, .int 1] ++ List.replicate (6 - (lg_sl [.ref pg, .int at_, .ref rt, .int 1]).length) Slot.unset).toArray) [] from (by rw [ha]; exact lg_entry_eq m [.ref pg, .int at_, .ref rt, .int 1] 6)]
  generalize (lg_sl [.ref pg, .int at_, .ref rt, .int 1] ++ List.replicate (6 - (lg_sl [.ref pg, .int at_, .ref rt, .int 1]).length) Slot.unset).toArray = ls at hl ⊢
  have hl : lv_has ls 6 [(0, .ref pg), (1, .int at_), (2, .ref rt), (3, .int 1)] := hl
  obtain ⟨f, hfit, f_pb⟩ := hpb
  refine lv_iload_n hx hb d_Pg_putRecord_0 rfl (lv_at hl 3 rfl) ?_
  refine lv_iconst (v := -1) hx hb d_Pg_putRecord_1 (by decide) ?_
  refine lv_icmp_ne (tgt := 12) hx hb d_Pg_putRecord_2 (by decide) (fun hc1 => ?_) (fun hc1 => absurd hc1 (by decide))
  refine lv_iconst (v := 1) hx hb d_Pg_putRecord_12 (by decide) ?_
  refine lv_istore (lv' := [(4, .int 1), (0, .ref pg), (1, .int at_), (2, .ref rt), (3, .int 1)]) hx hb d_Pg_putRecord_13 hl (by decide) rfl (fun ls hl => ?_)
  refine lv_bipush (v := 33) hx hb d_Pg_putRecord_15 (by decide) ?_
  refine lv_iload hx hb d_Pg_putRecord_17 (lv_at hl 0 rfl) ?_
  refine lv_iadd hx hb d_Pg_putRecord_19 ?_
  refine hm_calli (va_runSN (As := [.int (33 + 1)]) (rest := []) ⟨hx, hb, hml, hown, hts⟩ (c_Di_evened l D t G ak av h (33 + 1)) ⟨cw9N 1 hts mw_120 (nmU hE nM_7) mw_121 rfl rfl (by decide +kernel) ⟨Nat.le_of_ble_eq_true rfl, Nat.le_of_ble_eq_true rfl⟩, hts _ mw_122, trivial⟩ (hP_S kE_ok hE hH) rfl rfl hl.1 rfl (lv_room (Nat.le_of_ble_eq_true rfl)) d_Pg_putRecord_20 ⟨Nat.le_of_ble_eq_true rfl, Nat.le_of_ble_eq_true rfl⟩) hLo (fun r2 h3 H4 locs hp6 hH z5 hLo => ?_)
  have hz : s.heap.size ≤ H4.size := Nat.le_trans hz z5
  obtain ⟨rfl, rfl⟩ := hp6
  refine lv_topi (fun v7 e8 => ?_)
  obtain rfl : v7 = 34 := e8.trans (by decide)
  refine lv_istore (lv' := [(5, .int 34), (4, .int 1), (0, .ref pg), (1, .int at_), (2, .ref rt), (3, .int 1)]) hx hb d_Pg_putRecord_23 hl (by decide) rfl (fun ls hl => ?_)
  refine lv_aload_n hx hb d_Pg_putRecord_25 rfl (lv_at hl 2 rfl) ?_
  refine lv_iload_n hx hb d_Pg_putRecord_26 rfl (lv_at hl 3 rfl) ?_
  refine lv_iload hx hb d_Pg_putRecord_27 (lv_at hl 0 rfl) ?_
  refine hm_callv (va_runV (As := [.int at_, .int 34]) (b := pg) (rest := []) ⟨hx, hb, hml, hown, hts⟩ (c_Page_put l D t G ak av h pg pb 2048 at_ 34 f_pg ⟨f, hfit, f_pb⟩ (by decide)) ⟨cw9B 2 hts mw_66 mw_67 mw_52 rfl rfl (by decide +kernel) ⟨Nat.le_of_ble_eq_true rfl, Nat.le_of_ble_eq_true rfl⟩, hts _ mw_68, hts _ mw_69⟩ (hP_V (q := (R_Pg, F_Pg, 1)) kE_ok hE hK hH f_pg rfl) rfl rfl hl.1 rfl (lv_room (Nat.le_of_ble_eq_true rfl)) d_Pg_putRecord_29 ⟨Nat.le_of_ble_eq_true rfl, Nat.le_of_ble_eq_true rfl⟩) hLo (fun h9 H10 locs hp12 hH z11 hLo => ?_)
  have hz : s.heap.size ≤ H10.size := Nat.le_trans hz z11
  obtain ⟨hk9, f, hfit, f_pb2⟩ := hp12
  have f_pg : h9 pg = some (.inr (3, [.ref pb])) := kp_at hk9 f_pg (nmc (Ne.symm (h_neA f_pb f_pg)) nm0)
  have f_rt : h9 rt = some (.inr (1, [.int 0, .null, .int 1, .long 0, .int 0, .int 0, .int 0, .int 0, .int 0, .int sc, .int np])) := kp_at hk9 f_rt (nmc (Ne.symm (h_neA f_pb f_rt)) nm0)
  have hkp : kp [pb] h h9 := kp_tr2 hkp hk9 (List.forall_mem_cons.mpr ⟨Or.inl (by simp), List.forall_mem_nil _⟩)
  have f_pb : h9 pb = some (.inl ((t 0), 2048, .inl f)) := f_pb2
  refine lv_aload_n hx hb d_Pg_putRecord_32 rfl (lv_at hl 2 rfl) ?_
  refine lv_iload_n hx hb d_Pg_putRecord_33 rfl (lv_at hl 3 rfl) ?_
  refine lv_iconst (v := 2) hx hb d_Pg_putRecord_34 (by decide) ?_
  refine lv_iadd hx hb d_Pg_putRecord_35 ?_
  refine lv_iconst (v := 4) hx hb d_Pg_putRecord_36 (by decide) ?_
  refine lv_aload_n hx hb d_Pg_putRecord_37 rfl (lv_at hl 4 rfl) ?_
  refine hm_get (ci := 1) (v := .int sc) (C := R_No) (T := F_No) (N := 11) hx hb hts ig_No hown hK hH f_rt rfl 9 (by decide) (hts _ mw_111) (fun _ h9 => h9) rfl d_Pg_putRecord_38 ?_
  refine hm_callv (va_runV (As := [.int (at_ + 2), .int 4, .int sc]) (b := pg) (rest := []) ⟨hx, hb, hml, hown, hts⟩ (c_Page_putBoth l D t G ak av h9 pg pb 2048 (at_ + 2) 4 sc f_pg ⟨f, hfit, f_pb⟩ (by decide)) ⟨cw9B 3 hts mw_127 mw_128 mw_52 rfl rfl (by decide +kernel) ⟨Nat.le_of_ble_eq_true rfl, Nat.le_of_ble_eq_true rfl⟩, hts _ mw_129, hts _ mw_130⟩ (hP_V (q := (R_Pg, F_Pg, 1)) kE_ok hE hK hH f_pg rfl) rfl rfl hl.1 rfl (lv_room (Nat.le_of_ble_eq_true rfl)) d_Pg_putRecord_41 ⟨Nat.le_of_ble_eq_true rfl, Nat.le_of_ble_eq_true rfl⟩) hLo (fun h13 H14 locs hp16 hH z15 hLo => ?_)
  have hz : s.heap.size ≤ H14.size := Nat.le_trans hz z15
  obtain ⟨hk9, f, hfit, f_pb2⟩ := hp16
  have f_pg : h13 pg = some (.inr (3, [.ref pb])) := kp_at hk9 f_pg (nmc (Ne.symm (h_neA f_pb f_pg)) nm0)
  have f_rt : h13 rt = some (.inr (1, [.int 0, .null, .int 1, .long 0, .int 0, .int 0, .int 0, .int 0, .int 0, .int sc, .int np])) := kp_at hk9 f_rt (nmc (Ne.symm (h_neA f_pb f_rt)) nm0)
  have hkp : kp [pb] h h13 := kp_tr2 hkp hk9 (List.forall_mem_cons.mpr ⟨Or.inl (by simp), List.forall_mem_nil _⟩)
  have f_pb : h13 pb = some (.inl ((t 0), 2048, .inl f)) := f_pb2
  refine lv_aload_n hx hb d_Pg_putRecord_44 rfl (lv_at hl 2 rfl) ?_
  refine lv_iload_n hx hb d_Pg_putRecord_45 rfl (lv_at hl 3 rfl) ?_
  refine lv_bipush (v := 10) hx hb d_Pg_putRecord_46 (by decide) ?_
  refine lv_iadd hx hb d_Pg_putRecord_48 ?_
  refine lv_iconst (v := 4) hx hb d_Pg_putRecord_49 (by decide) ?_
  refine lv_aload_n hx hb d_Pg_putRecord_50 rfl (lv_at hl 4 rfl) ?_
  refine hm_get (ci := 1) (v := .int 1) (C := R_No) (T := F_No) (N := 11) hx hb hts ig_No hown hK hH f_rt rfl 2 (by decide) (hts _ mw_131) (fun _ h9 => h9) rfl d_Pg_putRecord_51 ?_
  refine lv_if_eq (tgt := 63) hx hb d_Pg_putRecord_54 (by decide) (fun hc17 => absurd hc17 (by decide)) (fun hc17 => ?_)
  refine lv_sipush (v := 2048) hx hb d_Pg_putRecord_57 (by decide) ?_
  refine lv_goto (tgt := 67) hx hb d_Pg_putRecord_60 (by decide) ?_
  refine hm_callv (va_runV (As := [.int (at_ + 10), .int 4, .int 2048]) (b := pg) (rest := []) ⟨hx, hb, hml, hown, hts⟩ (c_Page_putBoth l D t G ak av h13 pg pb 2048 (at_ + 10) 4 2048 f_pg ⟨f, hfit, f_pb⟩ (by decide)) ⟨cw9B 3 hts mw_127 mw_128 mw_52 rfl rfl (by decide +kernel) ⟨Nat.le_of_ble_eq_true rfl, Nat.le_of_ble_eq_true rfl⟩, hts _ mw_129, hts _ mw_130⟩ (hP_V (q := (R_Pg, F_Pg, 1)) kE_ok hE hK hH f_pg rfl) rfl rfl hl.1 rfl (lv_room (Nat.le_of_ble_eq_true rfl)) d_Pg_putRecord_67 ⟨Nat.le_of_ble_eq_true rfl, Nat.le_of_ble_eq_true rfl⟩) hLo (fun h18 H19 locs hp21 hH z20 hLo => ?_)
  have hz : s.heap.size ≤ H19.size := Nat.le_trans hz z20
  obtain ⟨hk9, f, hfit, f_pb2⟩ := hp21
  have f_pg : h18 pg = some (.inr (3, [.ref pb])) := kp_at hk9 f_pg (nmc (Ne.symm (h_neA f_pb f_pg)) nm0)
  have f_rt : h18 rt = some (.inr (1, [.int 0, .null, .int 1, .long 0, .int 0, .int 0, .int 0, .int 0, .int 0, .int sc, .int np])) := kp_at hk9 f_rt (nmc (Ne.symm (h_neA f_pb f_rt)) nm0)
  have hkp : kp [pb] h h18 := kp_tr2 hkp hk9 (List.forall_mem_cons.mpr ⟨Or.inl (by simp), List.forall_mem_nil _⟩)
  have f_pb : h18 pb = some (.inl ((t 0), 2048, .inl f)) := f_pb2
  refine lv_aload_n hx hb d_Pg_putRecord_70 rfl (lv_at hl 2 rfl) ?_
  refine lv_iload_n hx hb d_Pg_putRecord_71 rfl (lv_at hl 3 rfl) ?_
  refine lv_bipush (v := 25) hx hb d_Pg_putRecord_72 (by decide) ?_
  refine lv_iadd hx hb d_Pg_putRecord_74 ?_
  refine lv_aload_n hx hb d_Pg_putRecord_75 rfl (lv_at hl 4 rfl) ?_
  refine hm_get (ci := 1) (v := .int 1) (C := R_No) (T := F_No) (N := 11) hx hb hts ig_No hown hK hH f_rt rfl 2 (by decide) (hts _ mw_131) (fun _ h9 => h9) rfl d_Pg_putRecord_76 ?_
  refine lv_if_eq (tgt := 86) hx hb d_Pg_putRecord_79 (by decide) (fun hc22 => absurd hc22 (by decide)) (fun hc22 => ?_)
  refine lv_iconst (v := 2) hx hb d_Pg_putRecord_82 (by decide) ?_
  refine lv_goto (tgt := 87) hx hb d_Pg_putRecord_83 (by decide) ?_
  refine hm_callv (va_runV (As := [.int (at_ + 25), .int 2]) (b := pg) (rest := []) ⟨hx, hb, hml, hown, hts⟩ (c_Page_put l D t G ak av h18 pg pb 2048 (at_ + 25) 2 f_pg ⟨f, hfit, f_pb⟩ (by decide)) ⟨cw9B 2 hts mw_66 mw_67 mw_52 rfl rfl (by decide +kernel) ⟨Nat.le_of_ble_eq_true rfl, Nat.le_of_ble_eq_true rfl⟩, hts _ mw_68, hts _ mw_69⟩ (hP_V (q := (R_Pg, F_Pg, 1)) kE_ok hE hK hH f_pg rfl) rfl rfl hl.1 rfl (lv_room (Nat.le_of_ble_eq_true rfl)) d_Pg_putRecord_87 ⟨Nat.le_of_ble_eq_true rfl, Nat.le_of_ble_eq_true rfl⟩) hLo (fun h23 H24 locs hp26 hH z25 hLo => ?_)
  have hz : s.heap.size ≤ H24.size := Nat.le_trans hz z25
  obtain ⟨hk9, f, hfit, f_pb2⟩ := hp26
  have f_pg : h23 pg = some (.inr (3, [.ref pb])) := kp_at hk9 f_pg (nmc (Ne.symm (h_neA f_pb f_pg)) nm0)
  have f_rt : h23 rt = some (.inr (1, [.int 0, .null, .int 1, .long 0, .int 0, .int 0, .int 0, .int 0, .int 0, .int sc, .int np])) := kp_at hk9 f_rt (nmc (Ne.symm (h_neA f_pb f_rt)) nm0)
  have hkp : kp [pb] h h23 := kp_tr2 hkp hk9 (List.forall_mem_cons.mpr ⟨Or.inl (by simp), List.forall_mem_nil _⟩)
  have f_pb : h23 pb = some (.inl ((t 0), 2048, .inl f)) := f_pb2
  refine lv_aload_n hx hb d_Pg_putRecord_90 rfl (lv_at hl 2 rfl) ?_
  refine lv_iload_n hx hb d_Pg_putRecord_91 rfl (lv_at hl 3 rfl) ?_
  refine lv_bipush (v := 28) hx hb d_Pg_putRecord_92 (by decide) ?_
  refine lv_iadd hx hb d_Pg_putRecord_94 ?_
  refine lv_iconst (v := 2) hx hb d_Pg_putRecord_95 (by decide) ?_
  refine lv_iconst (v := 1) hx hb d_Pg_putRecord_96 (by decide) ?_
  refine hm_callv (va_runV (As := [.int (at_ + 28), .int 2, .int 1]) (b := pg) (rest := []) ⟨hx, hb, hml, hown, hts⟩ (c_Page_putBoth l D t G ak av h23 pg pb 2048 (at_ + 28) 2 1 f_pg ⟨f, hfit, f_pb⟩ (by decide)) ⟨cw9B 3 hts mw_127 mw_128 mw_52 rfl rfl (by decide +kernel) ⟨Nat.le_of_ble_eq_true rfl, Nat.le_of_ble_eq_true rfl⟩, hts _ mw_129, hts _ mw_130⟩ (hP_V (q := (R_Pg, F_Pg, 1)) kE_ok hE hK hH f_pg rfl) rfl rfl hl.1 rfl (lv_room (Nat.le_of_ble_eq_true rfl)) d_Pg_putRecord_97 ⟨Nat.le_of_ble_eq_true rfl, Nat.le_of_ble_eq_true rfl⟩) hLo (fun h27 H28 locs hp30 hH z29 hLo => ?_)
  have hz : s.heap.size ≤ H28.size := Nat.le_trans hz z29
  obtain ⟨hk9, f, hfit, f_pb2⟩ := hp30
  have f_pg : h27 pg = some (.inr (3, [.ref pb])) := kp_at hk9 f_pg (nmc (Ne.symm (h_neA f_pb f_pg)) nm0)
  have f_rt : h27 rt = some (.inr (1, [.int 0, .null, .int 1, .long 0, .int 0, .int 0, .int 0, .int 0, .int 0, .int sc, .int np])) := kp_at hk9 f_rt (nmc (Ne.symm (h_neA f_pb f_rt)) nm0)
  have hkp : kp [pb] h h27 := kp_tr2 hkp hk9 (List.forall_mem_cons.mpr ⟨Or.inl (by simp), List.forall_mem_nil _⟩)
  have f_pb : h27 pb = some (.inl ((t 0), 2048, .inl f)) := f_pb2
  refine lv_aload_n hx hb d_Pg_putRecord_100 rfl (lv_at hl 2 rfl) ?_
  refine lv_iload_n hx hb d_Pg_putRecord_101 rfl (lv_at hl 3 rfl) ?_
  refine lv_bipush (v := 32) hx hb d_Pg_putRecord_102 (by decide) ?_
  refine lv_iadd hx hb d_Pg_putRecord_104 ?_
  refine lv_iload hx hb d_Pg_putRecord_105 (lv_at hl 1 rfl) ?_
  refine hm_callv (va_runV (As := [.int (at_ + 32), .int 1]) (b := pg) (rest := []) ⟨hx, hb, hml, hown, hts⟩ (c_Page_put l D t G ak av h27 pg pb 2048 (at_ + 32) 1 f_pg ⟨f, hfit, f_pb⟩ (by decide)) ⟨cw9B 2 hts mw_66 mw_67 mw_52 rfl rfl (by decide +kernel) ⟨Nat.le_of_ble_eq_true rfl, Nat.le_of_ble_eq_true rfl⟩, hts _ mw_68, hts _ mw_69⟩ (hP_V (q := (R_Pg, F_Pg, 1)) kE_ok hE hK hH f_pg rfl) rfl rfl hl.1 rfl (lv_room (Nat.le_of_ble_eq_true rfl)) d_Pg_putRecord_107 ⟨Nat.le_of_ble_eq_true rfl, Nat.le_of_ble_eq_true rfl⟩) hLo (fun h31 H32 locs hp34 hH z33 hLo => ?_)
  have hz : s.heap.size ≤ H32.size := Nat.le_trans hz z33
  obtain ⟨hk9, f, hfit, f_pb2⟩ := hp34
  have f_pg : h31 pg = some (.inr (3, [.ref pb])) := kp_at hk9 f_pg (nmc (Ne.symm (h_neA f_pb f_pg)) nm0)
  have f_rt : h31 rt = some (.inr (1, [.int 0, .null, .int 1, .long 0, .int 0, .int 0, .int 0, .int 0, .int 0, .int sc, .int np])) := kp_at hk9 f_rt (nmc (Ne.symm (h_neA f_pb f_rt)) nm0)
  have hkp : kp [pb] h h31 := kp_tr2 hkp hk9 (List.forall_mem_cons.mpr ⟨Or.inl (by simp), List.forall_mem_nil _⟩)
  have f_pb : h31 pb = some (.inl ((t 0), 2048, .inl f)) := f_pb2
  refine lv_iload_n hx hb d_Pg_putRecord_110 rfl (lv_at hl 5 rfl) ?_
  refine lv_iconst (v := -1) hx hb d_Pg_putRecord_111 (by decide) ?_
  refine lv_icmp_ne (tgt := 127) hx hb d_Pg_putRecord_112 (by decide) (fun hc35 => ?_) (fun hc35 => absurd hc35 (by decide))
  refine lv_aload_n hx hb d_Pg_putRecord_127 rfl (lv_at hl 2 rfl) ?_
  refine lv_iload_n hx hb d_Pg_putRecord_128 rfl (lv_at hl 3 rfl) ?_
  refine lv_bipush (v := 33) hx hb d_Pg_putRecord_129 (by decide) ?_
  refine lv_iadd hx hb d_Pg_putRecord_131 ?_
  refine lv_iload_n hx hb d_Pg_putRecord_132 rfl (lv_at hl 5 rfl) ?_
  refine hm_callv (va_runV (As := [.int (at_ + 33), .int 1]) (b := pg) (rest := []) ⟨hx, hb, hml, hown, hts⟩ (c_Page_put l D t G ak av h31 pg pb 2048 (at_ + 33) 1 f_pg ⟨f, hfit, f_pb⟩ (by decide)) ⟨cw9B 2 hts mw_66 mw_67 mw_52 rfl rfl (by decide +kernel) ⟨Nat.le_of_ble_eq_true rfl, Nat.le_of_ble_eq_true rfl⟩, hts _ mw_68, hts _ mw_69⟩ (hP_V (q := (R_Pg, F_Pg, 1)) kE_ok hE hK hH f_pg rfl) rfl rfl hl.1 rfl (lv_room (Nat.le_of_ble_eq_true rfl)) d_Pg_putRecord_133 ⟨Nat.le_of_ble_eq_true rfl, Nat.le_of_ble_eq_true rfl⟩) hLo (fun h36 H37 locs hp39 hH z38 hLo => ?_)
  have hz : s.heap.size ≤ H37.size := Nat.le_trans hz z38
  obtain ⟨hk9, f, hfit, f_pb2⟩ := hp39
  have f_pg : h36 pg = some (.inr (3, [.ref pb])) := kp_at hk9 f_pg (nmc (Ne.symm (h_neA f_pb f_pg)) nm0)
  have f_rt : h36 rt = some (.inr (1, [.int 0, .null, .int 1, .long 0, .int 0, .int 0, .int 0, .int 0, .int 0, .int sc, .int np])) := kp_at hk9 f_rt (nmc (Ne.symm (h_neA f_pb f_rt)) nm0)
  have hkp : kp [pb] h h36 := kp_tr2 hkp hk9 (List.forall_mem_cons.mpr ⟨Or.inl (by simp), List.forall_mem_nil _⟩)
  have f_pb : h36 pb = some (.inl ((t 0), 2048, .inl f)) := f_pb2
  refine lv_iload_n hx hb d_Pg_putRecord_136 rfl (lv_at hl 3 rfl) ?_
  refine lv_iload hx hb d_Pg_putRecord_137 (lv_at hl 0 rfl) ?_
  refine lv_iadd hx hb d_Pg_putRecord_139 ?_
  exact W.iret (v := at_ + 34) hx hb hr (fun t9 ht hW => ⟨at_ + 34, h36, rfl, ⟨rfl, hkp, f, hfit, f_pb⟩, by rw [ht]; exact hH, by rw [ht]; exact hz⟩) hLo d_Pg_putRecord_140

set_option maxHeartbeats 4000000 in
set_option maxRecDepth 100000 in
theorem c_Page_standard (l : Launch) (D : va_G) (t : Nat → ClassId) (G : Heap) (ak av : Nat → Nat) (h : hM) (pg pb : Nat) (bg : Int32) (f_pg : h pg = some (.inr (3, [.ref pb]))) (hpb : pgF t h pb 2048) : Met l y_Pg_fillWithStandard (.code y_Pg_fillWithStandard b_Pg_fillWithStandard 2 none :: lw_g) { frames := 5, cells := 0, slots := 0, locals := 108 } (hP (kE D t G ak av) D vwCl G h [.ref pg, .int bg]) (hQv D vwCl G (fun h' => kp [pb] h h' ∧ pgF t h' pb 2048)) 0 0 (fun q => G.size ≤ q) := by
  refine Met.ofW (cc := b_Pg_fillWithStandard) (maxL := 2) (ret := none) (by decide) rfl ?_
  intro p e s m args below meth c s₁ Bd hml hv
  obtain ⟨ha, hE, hH⟩ := hv
  have hx := Bd.exec
  have hb := Bd.bytes
  have hr := Bd.returns
  have hts : ∀ w ∈ lw_g, w.before args s = true := fun w hw => atoms_spec (ws := (.code y_Pg_fillWithStandard b_Pg_fillWithStandard 2 none :: lw_g)) Bd.pre w (List.mem_cons_of_mem _ hw)
  have hown : s.vm.findClass R_Pg = some m.cls := findClass_of_methodNamed Bd.named
  have hlocks := Bd.notSynchronized
  have hK := hE.1
  have hH0 := hH
  have hLo : hLc G.size [] := hLc_nil
  have hz : s.heap.size ≤ s.heap.size := Nat.le_refl _
  have hkp : kp [pb] h h := kp_rf
  have hl := lv_entry [.ref pg, .int bg] (n := 2) (Nat.le_of_ble_eq_true rfl)
  rw [show entryFrame m args 2 = F0 m 0 ((lg_sl [.ref pg, .int bg] ++ List.replicate (2 - (lg_sl [.ref pg, .int bg]).length) Slot.unset).toArray) [] from (by rw [ha]; exact lg_entry_eq m [.ref pg, .int bg] 2)]
  generalize (lg_sl [.ref pg, .int bg] ++ List.replicate (2 - (lg_sl [.ref pg, .int bg]).length) Slot.unset).toArray = ls at hl ⊢
  have hl : lv_has ls 2 [(0, .ref pg), (1, .int bg)] := hl
  obtain ⟨f, hfit, f_pb⟩ := hpb
  refine lv_aload_n hx hb d_Pg_fillWithStandard_0 rfl (lv_at hl 0 rfl) ?_
  refine hm_callv (va_runV (As := []) (b := pg) (rest := []) ⟨hx, hb, hml, hown, hts⟩ (c_Page_clear l D t G ak av h pg pb 2048  f_pg ⟨f, hfit, f_pb⟩ (by decide)) ⟨cw9B 0 hts mw_132 mw_133 mw_52 rfl rfl (by decide +kernel) ⟨Nat.le_of_ble_eq_true rfl, Nat.le_of_ble_eq_true rfl⟩, hts _ mw_134, hts _ mw_135⟩ (hP_V (q := (R_Pg, F_Pg, 1)) kE_ok hE hK hH f_pg rfl) rfl rfl hl.1 rfl (lv_room (Nat.le_of_ble_eq_true rfl)) d_Pg_fillWithStandard_1 ⟨Nat.le_of_ble_eq_true rfl, Nat.le_of_ble_eq_true rfl⟩) hLo (fun h1 H2 locs hp4 hH z3 hLo => ?_)
  have hz : s.heap.size ≤ H2.size := Nat.le_trans hz z3
  obtain ⟨hk9, f, hfit, f_pb2⟩ := hp4
  have f_pg : h1 pg = some (.inr (3, [.ref pb])) := kp_at hk9 f_pg (nmc (Ne.symm (h_neA f_pb f_pg)) nm0)
  have hkp : kp [pb] h h1 := kp_tr2 hkp hk9 (List.forall_mem_cons.mpr ⟨Or.inl (by simp), List.forall_mem_nil _⟩)
  have f_pb : h1 pb = some (.inl ((t 0), 2048, .inl f)) := f_pb2
  refine lv_aload_n hx hb d_Pg_fillWithStandard_4 rfl (lv_at hl 0 rfl) ?_
  refine lv_iconst (v := 0) hx hb d_Pg_fillWithStandard_5 (by decide) ?_
  refine lv_iload_n hx hb d_Pg_fillWithStandard_6 rfl (lv_at hl 1 rfl) ?_
  refine hm_callv (va_runV (As := [.int 0, .int bg]) (b := pg) (rest := []) ⟨hx, hb, hml, hown, hts⟩ (c_Page_put l D t G ak av h1 pg pb 2048 0 bg f_pg ⟨f, hfit, f_pb⟩ (by decide)) ⟨cw9B 2 hts mw_66 mw_67 mw_52 rfl rfl (by decide +kernel) ⟨Nat.le_of_ble_eq_true rfl, Nat.le_of_ble_eq_true rfl⟩, hts _ mw_68, hts _ mw_69⟩ (hP_V (q := (R_Pg, F_Pg, 1)) kE_ok hE hK hH f_pg rfl) rfl rfl hl.1 rfl (lv_room (Nat.le_of_ble_eq_true rfl)) d_Pg_fillWithStandard_7 ⟨Nat.le_of_ble_eq_true rfl, Nat.le_of_ble_eq_true rfl⟩) hLo (fun h5 H6 locs hp8 hH z7 hLo => ?_)
  have hz : s.heap.size ≤ H6.size := Nat.le_trans hz z7
  obtain ⟨hk9, f, hfit, f_pb2⟩ := hp8
  have f_pg : h5 pg = some (.inr (3, [.ref pb])) := kp_at hk9 f_pg (nmc (Ne.symm (h_neA f_pb f_pg)) nm0)
  have hkp : kp [pb] h h5 := kp_tr2 hkp hk9 (List.forall_mem_cons.mpr ⟨Or.inl (by simp), List.forall_mem_nil _⟩)
  have f_pb : h5 pb = some (.inl ((t 0), 2048, .inl f)) := f_pb2
  refine lv_aload_n hx hb d_Pg_fillWithStandard_10 rfl (lv_at hl 0 rfl) ?_
  refine lv_iconst (v := 1) hx hb d_Pg_fillWithStandard_11 (by decide) ?_
  refine va_ldcS hx hb hown hE.2.2.2.2.2.1 d_Pg_fillWithStandard_12 ?_
  refine hm_callv (va_runV (As := [.int 1, .ref (ak 0)]) (b := pg) (rest := []) ⟨hx, hb, hml, hown, hts⟩ (c_Page_putText l D t G ak av h5 pg pb 2048 0 1 f_pg ⟨f, hfit, f_pb⟩ (by decide) (by decide)) ⟨cw9B 2 hts mw_136 mw_137 mw_52 rfl rfl (by decide +kernel) ⟨Nat.le_of_ble_eq_true rfl, Nat.le_of_ble_eq_true rfl⟩, hts _ mw_138, hts _ mw_139⟩ (hP_V (q := (R_Pg, F_Pg, 1)) kE_ok hE hK hH f_pg rfl) rfl rfl hl.1 rfl (lv_room (Nat.le_of_ble_eq_true rfl)) d_Pg_fillWithStandard_14 ⟨Nat.le_of_ble_eq_true rfl, Nat.le_of_ble_eq_true rfl⟩) hLo (fun h9 H10 locs hp12 hH z11 hLo => ?_)
  have hz : s.heap.size ≤ H10.size := Nat.le_trans hz z11
  obtain ⟨hk9, f, hfit, f_pb2⟩ := hp12
  have f_pg : h9 pg = some (.inr (3, [.ref pb])) := kp_at hk9 f_pg (nmc (Ne.symm (h_neA f_pb f_pg)) nm0)
  have hkp : kp [pb] h h9 := kp_tr2 hkp hk9 (List.forall_mem_cons.mpr ⟨Or.inl (by simp), List.forall_mem_nil _⟩)
  have f_pb : h9 pb = some (.inl ((t 0), 2048, .inl f)) := f_pb2
  refine lv_aload_n hx hb d_Pg_fillWithStandard_17 rfl (lv_at hl 0 rfl) ?_
  refine lv_bipush (v := 6) hx hb d_Pg_fillWithStandard_18 (by decide) ?_
  refine lv_iconst (v := 1) hx hb d_Pg_fillWithStandard_20 (by decide) ?_
  refine hm_callv (va_runV (As := [.int 6, .int 1]) (b := pg) (rest := []) ⟨hx, hb, hml, hown, hts⟩ (c_Page_put l D t G ak av h9 pg pb 2048 6 1 f_pg ⟨f, hfit, f_pb⟩ (by decide)) ⟨cw9B 2 hts mw_66 mw_67 mw_52 rfl rfl (by decide +kernel) ⟨Nat.le_of_ble_eq_true rfl, Nat.le_of_ble_eq_true rfl⟩, hts _ mw_68, hts _ mw_69⟩ (hP_V (q := (R_Pg, F_Pg, 1)) kE_ok hE hK hH f_pg rfl) rfl rfl hl.1 rfl (lv_room (Nat.le_of_ble_eq_true rfl)) d_Pg_fillWithStandard_21 ⟨Nat.le_of_ble_eq_true rfl, Nat.le_of_ble_eq_true rfl⟩) hLo (fun h13 H14 locs hp16 hH z15 hLo => ?_)
  have hz : s.heap.size ≤ H14.size := Nat.le_trans hz z15
  obtain ⟨hk9, f, hfit, f_pb2⟩ := hp16
  have f_pg : h13 pg = some (.inr (3, [.ref pb])) := kp_at hk9 f_pg (nmc (Ne.symm (h_neA f_pb f_pg)) nm0)
  have hkp : kp [pb] h h13 := kp_tr2 hkp hk9 (List.forall_mem_cons.mpr ⟨Or.inl (by simp), List.forall_mem_nil _⟩)
  have f_pb : h13 pb = some (.inl ((t 0), 2048, .inl f)) := f_pb2
  exact W.vret hx hb hr (fun t9 ht hW => ⟨h13, rfl, ⟨hkp, f, hfit, f_pb⟩, by rw [ht]; exact hH, by rw [ht]; exact hz⟩) hLo d_Pg_fillWithStandard_24

set_option maxHeartbeats 4000000 in
set_option maxRecDepth 100000 in
theorem c_Page_mark (l : Launch) (D : va_G) (t : Nat → ClassId) (G : Heap) (ak av : Nat → Nat) (h : hM) (pg pb : Nat) (bs nu : Int32) (f_pg : h pg = some (.inr (3, [.ref pb]))) (hpb : pgF t h pb 2048) : Met l y_Pg_fillWithMark (.code y_Pg_fillWithMark b_Pg_fillWithMark 3 none :: lw_g) { frames := 5, cells := 0, slots := 0, locals := 108 } (hP (kE D t G ak av) D vwCl G h [.ref pg, .int bs, .int nu]) (hQv D vwCl G (fun h' => kp [pb] h h' ∧ pgF t h' pb 2048)) 0 0 (fun q => G.size ≤ q) := by
  refine Met.ofW (cc := b_Pg_fillWithMark) (maxL := 3) (ret := none) (by decide) rfl ?_
  intro p e s m args below meth c s₁ Bd hml hv
  obtain ⟨ha, hE, hH⟩ := hv
  have hx := Bd.exec
  have hb := Bd.bytes
  have hr := Bd.returns
  have hts : ∀ w ∈ lw_g, w.before args s = true := fun w hw => atoms_spec (ws := (.code y_Pg_fillWithMark b_Pg_fillWithMark 3 none :: lw_g)) Bd.pre w (List.mem_cons_of_mem _ hw)
  have hown : s.vm.findClass R_Pg = some m.cls := findClass_of_methodNamed Bd.named
  have hlocks := Bd.notSynchronized
  have hK := hE.1
  have hH0 := hH
  have hLo : hLc G.size [] := hLc_nil
  have hz : s.heap.size ≤ s.heap.size := Nat.le_refl _
  have hkp : kp [pb] h h := kp_rf
  have hl := lv_entry [.ref pg, .int bs, .int nu] (n := 3) (Nat.le_of_ble_eq_true rfl)
  rw [show entryFrame m args 3 = F0 m 0 ((lg_sl [.ref pg, .int bs, .int nu] ++ List.replicate (3 - (lg_sl [.ref pg, .int bs, .int nu]).length) Slot.unset).toArray) [] from (by rw [ha]; exact lg_entry_eq m [.ref pg, .int bs, .int nu] 3)]
  generalize (lg_sl [.ref pg, .int bs, .int nu] ++ List.replicate (3 - (lg_sl [.ref pg, .int bs, .int nu]).length) Slot.unset).toArray = ls at hl ⊢
  have hl : lv_has ls 3 [(0, .ref pg), (1, .int bs), (2, .int nu)] := hl
  obtain ⟨f, hfit, f_pb⟩ := hpb
  refine lv_aload_n hx hb d_Pg_fillWithMark_0 rfl (lv_at hl 0 rfl) ?_
  refine hm_callv (va_runV (As := []) (b := pg) (rest := []) ⟨hx, hb, hml, hown, hts⟩ (c_Page_clear l D t G ak av h pg pb 2048  f_pg ⟨f, hfit, f_pb⟩ (by decide)) ⟨cw9B 0 hts mw_132 mw_133 mw_52 rfl rfl (by decide +kernel) ⟨Nat.le_of_ble_eq_true rfl, Nat.le_of_ble_eq_true rfl⟩, hts _ mw_134, hts _ mw_135⟩ (hP_V (q := (R_Pg, F_Pg, 1)) kE_ok hE hK hH f_pg rfl) rfl rfl hl.1 rfl (lv_room (Nat.le_of_ble_eq_true rfl)) d_Pg_fillWithMark_1 ⟨Nat.le_of_ble_eq_true rfl, Nat.le_of_ble_eq_true rfl⟩) hLo (fun h1 H2 locs hp4 hH z3 hLo => ?_)
  have hz : s.heap.size ≤ H2.size := Nat.le_trans hz z3
  obtain ⟨hk9, f, hfit, f_pb2⟩ := hp4
  have f_pg : h1 pg = some (.inr (3, [.ref pb])) := kp_at hk9 f_pg (nmc (Ne.symm (h_neA f_pb f_pg)) nm0)
  have hkp : kp [pb] h h1 := kp_tr2 hkp hk9 (List.forall_mem_cons.mpr ⟨Or.inl (by simp), List.forall_mem_nil _⟩)
  have f_pb : h1 pb = some (.inl ((t 0), 2048, .inl f)) := f_pb2
  refine lv_aload_n hx hb d_Pg_fillWithMark_4 rfl (lv_at hl 0 rfl) ?_
  refine lv_iconst (v := 0) hx hb d_Pg_fillWithMark_5 (by decide) ?_
  refine va_ldcS hx hb hown hE.2.2.2.2.2.2.1 d_Pg_fillWithMark_6 ?_
  refine hm_callv (va_runV (As := [.int 0, .ref (ak 1)]) (b := pg) (rest := []) ⟨hx, hb, hml, hown, hts⟩ (c_Page_putText l D t G ak av h1 pg pb 2048 1 0 f_pg ⟨f, hfit, f_pb⟩ (by decide) (by decide)) ⟨cw9B 2 hts mw_136 mw_137 mw_52 rfl rfl (by decide +kernel) ⟨Nat.le_of_ble_eq_true rfl, Nat.le_of_ble_eq_true rfl⟩, hts _ mw_138, hts _ mw_139⟩ (hP_V (q := (R_Pg, F_Pg, 1)) kE_ok hE hK hH f_pg rfl) rfl rfl hl.1 rfl (lv_room (Nat.le_of_ble_eq_true rfl)) d_Pg_fillWithMark_8 ⟨Nat.le_of_ble_eq_true rfl, Nat.le_of_ble_eq_true rfl⟩) hLo (fun h5 H6 locs hp8 hH z7 hLo => ?_)
  have hz : s.heap.size ≤ H6.size := Nat.le_trans hz z7
  obtain ⟨hk9, f, hfit, f_pb2⟩ := hp8
  have f_pg : h5 pg = some (.inr (3, [.ref pb])) := kp_at hk9 f_pg (nmc (Ne.symm (h_neA f_pb f_pg)) nm0)
  have hkp : kp [pb] h h5 := kp_tr2 hkp hk9 (List.forall_mem_cons.mpr ⟨Or.inl (by simp), List.forall_mem_nil _⟩)
  have f_pb : h5 pb = some (.inl ((t 0), 2048, .inl f)) := f_pb2
  refine lv_aload_n hx hb d_Pg_fillWithMark_11 rfl (lv_at hl 0 rfl) ?_
  refine lv_iconst (v := 4) hx hb d_Pg_fillWithMark_12 (by decide) ?_
  refine lv_iconst (v := 4) hx hb d_Pg_fillWithMark_13 (by decide) ?_
  refine lv_iload_n hx hb d_Pg_fillWithMark_14 rfl (lv_at hl 1 rfl) ?_
  refine hm_callv (va_runV (As := [.int 4, .int 4, .int bs]) (b := pg) (rest := []) ⟨hx, hb, hml, hown, hts⟩ (c_Page_putLow l D t G ak av h5 pg pb 2048 4 4 bs f_pg ⟨f, hfit, f_pb⟩ (by decide)) ⟨cw9B 3 hts mw_123 mw_124 mw_52 rfl rfl (by decide +kernel) ⟨Nat.le_of_ble_eq_true rfl, Nat.le_of_ble_eq_true rfl⟩, hts _ mw_125, hts _ mw_126⟩ (hP_V (q := (R_Pg, F_Pg, 1)) kE_ok hE hK hH f_pg rfl) rfl rfl hl.1 rfl (lv_room (Nat.le_of_ble_eq_true rfl)) d_Pg_fillWithMark_15 ⟨Nat.le_of_ble_eq_true rfl, Nat.le_of_ble_eq_true rfl⟩) hLo (fun h9 H10 locs hp12 hH z11 hLo => ?_)
  have hz : s.heap.size ≤ H10.size := Nat.le_trans hz z11
  obtain ⟨hk9, f, hfit, f_pb2⟩ := hp12
  have f_pg : h9 pg = some (.inr (3, [.ref pb])) := kp_at hk9 f_pg (nmc (Ne.symm (h_neA f_pb f_pg)) nm0)
  have hkp : kp [pb] h h9 := kp_tr2 hkp hk9 (List.forall_mem_cons.mpr ⟨Or.inl (by simp), List.forall_mem_nil _⟩)
  have f_pb : h9 pb = some (.inl ((t 0), 2048, .inl f)) := f_pb2
  refine lv_aload_n hx hb d_Pg_fillWithMark_18 rfl (lv_at hl 0 rfl) ?_
  refine lv_bipush (v := 8) hx hb d_Pg_fillWithMark_19 (by decide) ?_
  refine lv_iconst (v := 4) hx hb d_Pg_fillWithMark_21 (by decide) ?_
  refine lv_iload_n hx hb d_Pg_fillWithMark_22 rfl (lv_at hl 2 rfl) ?_
  refine hm_callv (va_runV (As := [.int 8, .int 4, .int nu]) (b := pg) (rest := []) ⟨hx, hb, hml, hown, hts⟩ (c_Page_putLow l D t G ak av h9 pg pb 2048 8 4 nu f_pg ⟨f, hfit, f_pb⟩ (by decide)) ⟨cw9B 3 hts mw_123 mw_124 mw_52 rfl rfl (by decide +kernel) ⟨Nat.le_of_ble_eq_true rfl, Nat.le_of_ble_eq_true rfl⟩, hts _ mw_125, hts _ mw_126⟩ (hP_V (q := (R_Pg, F_Pg, 1)) kE_ok hE hK hH f_pg rfl) rfl rfl hl.1 rfl (lv_room (Nat.le_of_ble_eq_true rfl)) d_Pg_fillWithMark_23 ⟨Nat.le_of_ble_eq_true rfl, Nat.le_of_ble_eq_true rfl⟩) hLo (fun h13 H14 locs hp16 hH z15 hLo => ?_)
  have hz : s.heap.size ≤ H14.size := Nat.le_trans hz z15
  obtain ⟨hk9, f, hfit, f_pb2⟩ := hp16
  have f_pg : h13 pg = some (.inr (3, [.ref pb])) := kp_at hk9 f_pg (nmc (Ne.symm (h_neA f_pb f_pg)) nm0)
  have hkp : kp [pb] h h13 := kp_tr2 hkp hk9 (List.forall_mem_cons.mpr ⟨Or.inl (by simp), List.forall_mem_nil _⟩)
  have f_pb : h13 pb = some (.inl ((t 0), 2048, .inl f)) := f_pb2
  exact W.vret hx hb hr (fun t9 ht hW => ⟨h13, rfl, ⟨hkp, f, hfit, f_pb⟩, by rw [ht]; exact hH, by rw [ht]; exact hz⟩) hLo d_Pg_fillWithMark_26

set_option maxHeartbeats 4000000 in
set_option maxRecDepth 100000 in
theorem c_Page_descriptor (l : Launch) (D : va_G) (t : Nat → ClassId) (G : Heap) (ak av : Nat → Nat) (h : hM) (pg pb md sa rt n fr : Nat) (fa : Nat → Option Nat) (bs tb sc np : Int32) (f_pg : h pg = some (.inr (3, [.ref pb]))) (hpb : pgF t h pb 2048) (f_md : h md = some (.inr (0, [.ref sa, .int (nI fr)]))) (f_sa : h sa = some (.inl ((t 5), n, .inr (.inr (.inr (.inr fa)))))) (f_rt : h rt = some (.inr (1, [.int 0, .null, .int 1, .long 0, .int 0, .int 0, .int 0, .int 0, .int 0, .int sc, .int np]))) : Met l y_Pg_fillWithDescriptor (.code y_Pg_fillWithDescriptor b_Pg_fillWithDescriptor 5 none :: lw_g) { frames := 6, cells := 0, slots := 0, locals := 129 } (hP (kE D t G ak av) D vwCl G h [.ref pg, .ref md, .int bs, .int tb, .ref rt]) (hQv D vwCl G (fun h' => kp [pb] h h' ∧ pgF t h' pb 2048)) 0 0 (fun q => G.size ≤ q) := by
  refine Met.ofW (cc := b_Pg_fillWithDescriptor) (maxL := 5) (ret := none) (by decide) rfl ?_
  intro p e s m args below meth c s₁ Bd hml hv
  obtain ⟨ha, hE, hH⟩ := hv
  have hx := Bd.exec
  have hb := Bd.bytes
  have hr := Bd.returns
  have hts : ∀ w ∈ lw_g, w.before args s = true := fun w hw => atoms_spec (ws := (.code y_Pg_fillWithDescriptor b_Pg_fillWithDescriptor 5 none :: lw_g)) Bd.pre w (List.mem_cons_of_mem _ hw)
  have hown : s.vm.findClass R_Pg = some m.cls := findClass_of_methodNamed Bd.named
  have hlocks := Bd.notSynchronized
  have hK := hE.1
  have hH0 := hH
  have hLo : hLc G.size [] := hLc_nil
  have hz : s.heap.size ≤ s.heap.size := Nat.le_refl _
  have hkp : kp [pb] h h := kp_rf
  have hl := lv_entry [.ref pg, .ref md, .int bs, .int tb, .ref rt] (n := 5) (Nat.le_of_ble_eq_true rfl)
  rw [show entryFrame m args 5 = F0 m 0 ((lg_sl [.ref pg, .ref md, .int bs, .int tb, .ref rt] ++ List.replicate (5 - (lg_sl [.ref pg, .ref md, .int bs, .int tb, .ref rt]).length) Slot.unset).toArray) [] from (by rw [ha]; exact lg_entry_eq m [.ref pg, .ref md, .int bs, .int tb, .ref rt] 5)]
  generalize (lg_sl [.ref pg, .ref md, .int bs, .int tb, .ref rt] ++ List.replicate (5 - (lg_sl [.ref pg, .ref md, .int bs, .int tb, .ref rt]).length) Slot.unset).toArray = ls at hl ⊢
  have hl : lv_has ls 5 [(0, .ref pg), (1, .ref md), (2, .int bs), (3, .int tb), (4, .ref rt)] := hl
  obtain ⟨f, hfit, f_pb⟩ := hpb
  refine lv_aload_n hx hb d_Pg_fillWithDescriptor_0 rfl (lv_at hl 0 rfl) ?_
  refine lv_iconst (v := 1) hx hb d_Pg_fillWithDescriptor_1 (by decide) ?_
  refine hm_callv (va_runV (As := [.int 1]) (b := pg) (rest := []) ⟨hx, hb, hml, hown, hts⟩ (c_Page_standard l D t G ak av h pg pb 1 f_pg ⟨f, hfit, f_pb⟩) ⟨cw9B 1 hts mw_140 mw_141 mw_52 rfl rfl (by decide +kernel) ⟨Nat.le_of_ble_eq_true rfl, Nat.le_of_ble_eq_true rfl⟩, hts _ mw_142, hts _ mw_143⟩ (hP_V (q := (R_Pg, F_Pg, 1)) kE_ok hE hK hH f_pg rfl) rfl rfl hl.1 rfl (lv_room (Nat.le_of_ble_eq_true rfl)) d_Pg_fillWithDescriptor_2 ⟨Nat.le_of_ble_eq_true rfl, Nat.le_of_ble_eq_true rfl⟩) hLo (fun h1 H2 locs hp4 hH z3 hLo => ?_)
  have hz : s.heap.size ≤ H2.size := Nat.le_trans hz z3
  obtain ⟨hk9, f, hfit, f_pb2⟩ := hp4
  have f_pg : h1 pg = some (.inr (3, [.ref pb])) := kp_at hk9 f_pg (nmc (Ne.symm (h_neA f_pb f_pg)) nm0)
  have f_md : h1 md = some (.inr (0, [.ref sa, .int (nI fr)])) := kp_at hk9 f_md (nmc (Ne.symm (h_neA f_pb f_md)) nm0)
  have f_sa : h1 sa = some (.inl ((t 5), n, .inr (.inr (.inr (.inr fa))))) := kp_at hk9 f_sa (nmc (h_neK (k1 := 4) (k2 := 0) f_sa f_pb rfl rfl (by decide)) nm0)
  have f_rt : h1 rt = some (.inr (1, [.int 0, .null, .int 1, .long 0, .int 0, .int 0, .int 0, .int 0, .int 0, .int sc, .int np])) := kp_at hk9 f_rt (nmc (Ne.symm (h_neA f_pb f_rt)) nm0)
  have hkp : kp [pb] h h1 := kp_tr2 hkp hk9 (List.forall_mem_cons.mpr ⟨Or.inl (by simp), List.forall_mem_nil _⟩)
  have f_pb : h1 pb = some (.inl ((t 0), 2048, .inl f)) := f_pb2
  refine lv_aload_n hx hb d_Pg_fillWithDescriptor_5 rfl (lv_at hl 0 rfl) ?_
  refine lv_bipush (v := 80) hx hb d_Pg_fillWithDescriptor_6 (by decide) ?_
  refine lv_iconst (v := 4) hx hb d_Pg_fillWithDescriptor_8 (by decide) ?_
  refine lv_aload_n hx hb d_Pg_fillWithDescriptor_9 rfl (lv_at hl 1 rfl) ?_
  refine hm_get (ci := 0) (v := .ref sa) (C := R_Me) (T := F_Me) (N := 2) hx hb hts ig_Me hown hK hH f_md rfl 0 (by decide) (hts _ mw_144) (fun _ h9 => h9) rfl d_Pg_fillWithDescriptor_10 ?_
  refine hm_alen (v := nI n) hx hb hK hH 5 f_sa (ty := (.object "WriteOnceDisc$Sector")) rfl rfl d_Pg_fillWithDescriptor_13 ?_
  refine hm_callv (va_runV (As := [.int 80, .int 4, .int (nI n)]) (b := pg) (rest := []) ⟨hx, hb, hml, hown, hts⟩ (c_Page_putBoth l D t G ak av h1 pg pb 2048 80 4 (nI n) f_pg ⟨f, hfit, f_pb⟩ (by decide)) ⟨cw9B 3 hts mw_127 mw_128 mw_52 rfl rfl (by decide +kernel) ⟨Nat.le_of_ble_eq_true rfl, Nat.le_of_ble_eq_true rfl⟩, hts _ mw_129, hts _ mw_130⟩ (hP_V (q := (R_Pg, F_Pg, 1)) kE_ok hE hK hH f_pg rfl) rfl rfl hl.1 rfl (lv_room (Nat.le_of_ble_eq_true rfl)) d_Pg_fillWithDescriptor_14 ⟨Nat.le_of_ble_eq_true rfl, Nat.le_of_ble_eq_true rfl⟩) hLo (fun h5 H6 locs hp8 hH z7 hLo => ?_)
  have hz : s.heap.size ≤ H6.size := Nat.le_trans hz z7
  obtain ⟨hk9, f, hfit, f_pb2⟩ := hp8
  have f_pg : h5 pg = some (.inr (3, [.ref pb])) := kp_at hk9 f_pg (nmc (Ne.symm (h_neA f_pb f_pg)) nm0)
  have f_md : h5 md = some (.inr (0, [.ref sa, .int (nI fr)])) := kp_at hk9 f_md (nmc (Ne.symm (h_neA f_pb f_md)) nm0)
  have f_sa : h5 sa = some (.inl ((t 5), n, .inr (.inr (.inr (.inr fa))))) := kp_at hk9 f_sa (nmc (h_neK (k1 := 4) (k2 := 0) f_sa f_pb rfl rfl (by decide)) nm0)
  have f_rt : h5 rt = some (.inr (1, [.int 0, .null, .int 1, .long 0, .int 0, .int 0, .int 0, .int 0, .int 0, .int sc, .int np])) := kp_at hk9 f_rt (nmc (Ne.symm (h_neA f_pb f_rt)) nm0)
  have hkp : kp [pb] h h5 := kp_tr2 hkp hk9 (List.forall_mem_cons.mpr ⟨Or.inl (by simp), List.forall_mem_nil _⟩)
  have f_pb : h5 pb = some (.inl ((t 0), 2048, .inl f)) := f_pb2
  refine lv_aload_n hx hb d_Pg_fillWithDescriptor_17 rfl (lv_at hl 0 rfl) ?_
  refine lv_sipush (v := 128) hx hb d_Pg_fillWithDescriptor_18 (by decide) ?_
  refine lv_iconst (v := 2) hx hb d_Pg_fillWithDescriptor_21 (by decide) ?_
  refine lv_sipush (v := 2048) hx hb d_Pg_fillWithDescriptor_22 (by decide) ?_
  refine hm_callv (va_runV (As := [.int 128, .int 2, .int 2048]) (b := pg) (rest := []) ⟨hx, hb, hml, hown, hts⟩ (c_Page_putBoth l D t G ak av h5 pg pb 2048 128 2 2048 f_pg ⟨f, hfit, f_pb⟩ (by decide)) ⟨cw9B 3 hts mw_127 mw_128 mw_52 rfl rfl (by decide +kernel) ⟨Nat.le_of_ble_eq_true rfl, Nat.le_of_ble_eq_true rfl⟩, hts _ mw_129, hts _ mw_130⟩ (hP_V (q := (R_Pg, F_Pg, 1)) kE_ok hE hK hH f_pg rfl) rfl rfl hl.1 rfl (lv_room (Nat.le_of_ble_eq_true rfl)) d_Pg_fillWithDescriptor_25 ⟨Nat.le_of_ble_eq_true rfl, Nat.le_of_ble_eq_true rfl⟩) hLo (fun h9 H10 locs hp12 hH z11 hLo => ?_)
  have hz : s.heap.size ≤ H10.size := Nat.le_trans hz z11
  obtain ⟨hk9, f, hfit, f_pb2⟩ := hp12
  have f_pg : h9 pg = some (.inr (3, [.ref pb])) := kp_at hk9 f_pg (nmc (Ne.symm (h_neA f_pb f_pg)) nm0)
  have f_md : h9 md = some (.inr (0, [.ref sa, .int (nI fr)])) := kp_at hk9 f_md (nmc (Ne.symm (h_neA f_pb f_md)) nm0)
  have f_sa : h9 sa = some (.inl ((t 5), n, .inr (.inr (.inr (.inr fa))))) := kp_at hk9 f_sa (nmc (h_neK (k1 := 4) (k2 := 0) f_sa f_pb rfl rfl (by decide)) nm0)
  have f_rt : h9 rt = some (.inr (1, [.int 0, .null, .int 1, .long 0, .int 0, .int 0, .int 0, .int 0, .int 0, .int sc, .int np])) := kp_at hk9 f_rt (nmc (Ne.symm (h_neA f_pb f_rt)) nm0)
  have hkp : kp [pb] h h9 := kp_tr2 hkp hk9 (List.forall_mem_cons.mpr ⟨Or.inl (by simp), List.forall_mem_nil _⟩)
  have f_pb : h9 pb = some (.inl ((t 0), 2048, .inl f)) := f_pb2
  refine lv_aload_n hx hb d_Pg_fillWithDescriptor_28 rfl (lv_at hl 0 rfl) ?_
  refine lv_sipush (v := 132) hx hb d_Pg_fillWithDescriptor_29 (by decide) ?_
  refine lv_iconst (v := 4) hx hb d_Pg_fillWithDescriptor_32 (by decide) ?_
  refine lv_iload_n hx hb d_Pg_fillWithDescriptor_33 rfl (lv_at hl 3 rfl) ?_
  refine hm_callv (va_runV (As := [.int 132, .int 4, .int tb]) (b := pg) (rest := []) ⟨hx, hb, hml, hown, hts⟩ (c_Page_putBoth l D t G ak av h9 pg pb 2048 132 4 tb f_pg ⟨f, hfit, f_pb⟩ (by decide)) ⟨cw9B 3 hts mw_127 mw_128 mw_52 rfl rfl (by decide +kernel) ⟨Nat.le_of_ble_eq_true rfl, Nat.le_of_ble_eq_true rfl⟩, hts _ mw_129, hts _ mw_130⟩ (hP_V (q := (R_Pg, F_Pg, 1)) kE_ok hE hK hH f_pg rfl) rfl rfl hl.1 rfl (lv_room (Nat.le_of_ble_eq_true rfl)) d_Pg_fillWithDescriptor_34 ⟨Nat.le_of_ble_eq_true rfl, Nat.le_of_ble_eq_true rfl⟩) hLo (fun h13 H14 locs hp16 hH z15 hLo => ?_)
  have hz : s.heap.size ≤ H14.size := Nat.le_trans hz z15
  obtain ⟨hk9, f, hfit, f_pb2⟩ := hp16
  have f_pg : h13 pg = some (.inr (3, [.ref pb])) := kp_at hk9 f_pg (nmc (Ne.symm (h_neA f_pb f_pg)) nm0)
  have f_md : h13 md = some (.inr (0, [.ref sa, .int (nI fr)])) := kp_at hk9 f_md (nmc (Ne.symm (h_neA f_pb f_md)) nm0)
  have f_sa : h13 sa = some (.inl ((t 5), n, .inr (.inr (.inr (.inr fa))))) := kp_at hk9 f_sa (nmc (h_neK (k1 := 4) (k2 := 0) f_sa f_pb rfl rfl (by decide)) nm0)
  have f_rt : h13 rt = some (.inr (1, [.int 0, .null, .int 1, .long 0, .int 0, .int 0, .int 0, .int 0, .int 0, .int sc, .int np])) := kp_at hk9 f_rt (nmc (Ne.symm (h_neA f_pb f_rt)) nm0)
  have hkp : kp [pb] h h13 := kp_tr2 hkp hk9 (List.forall_mem_cons.mpr ⟨Or.inl (by simp), List.forall_mem_nil _⟩)
  have f_pb : h13 pb = some (.inl ((t 0), 2048, .inl f)) := f_pb2
  refine lv_aload_n hx hb d_Pg_fillWithDescriptor_37 rfl (lv_at hl 0 rfl) ?_
  refine lv_sipush (v := 140) hx hb d_Pg_fillWithDescriptor_38 (by decide) ?_
  refine lv_iconst (v := 4) hx hb d_Pg_fillWithDescriptor_41 (by decide) ?_
  refine lv_iload_n hx hb d_Pg_fillWithDescriptor_42 rfl (lv_at hl 2 rfl) ?_
  refine lv_bipush (v := 18) hx hb d_Pg_fillWithDescriptor_43 (by decide) ?_
  refine lv_iadd hx hb d_Pg_fillWithDescriptor_45 ?_
  refine hm_callv (va_runV (As := [.int 140, .int 4, .int (bs + 18)]) (b := pg) (rest := []) ⟨hx, hb, hml, hown, hts⟩ (c_Page_putLow l D t G ak av h13 pg pb 2048 140 4 (bs + 18) f_pg ⟨f, hfit, f_pb⟩ (by decide)) ⟨cw9B 3 hts mw_123 mw_124 mw_52 rfl rfl (by decide +kernel) ⟨Nat.le_of_ble_eq_true rfl, Nat.le_of_ble_eq_true rfl⟩, hts _ mw_125, hts _ mw_126⟩ (hP_V (q := (R_Pg, F_Pg, 1)) kE_ok hE hK hH f_pg rfl) rfl rfl hl.1 rfl (lv_room (Nat.le_of_ble_eq_true rfl)) d_Pg_fillWithDescriptor_46 ⟨Nat.le_of_ble_eq_true rfl, Nat.le_of_ble_eq_true rfl⟩) hLo (fun h17 H18 locs hp20 hH z19 hLo => ?_)
  have hz : s.heap.size ≤ H18.size := Nat.le_trans hz z19
  obtain ⟨hk9, f, hfit, f_pb2⟩ := hp20
  have f_pg : h17 pg = some (.inr (3, [.ref pb])) := kp_at hk9 f_pg (nmc (Ne.symm (h_neA f_pb f_pg)) nm0)
  have f_md : h17 md = some (.inr (0, [.ref sa, .int (nI fr)])) := kp_at hk9 f_md (nmc (Ne.symm (h_neA f_pb f_md)) nm0)
  have f_sa : h17 sa = some (.inl ((t 5), n, .inr (.inr (.inr (.inr fa))))) := kp_at hk9 f_sa (nmc (h_neK (k1 := 4) (k2 := 0) f_sa f_pb rfl rfl (by decide)) nm0)
  have f_rt : h17 rt = some (.inr (1, [.int 0, .null, .int 1, .long 0, .int 0, .int 0, .int 0, .int 0, .int 0, .int sc, .int np])) := kp_at hk9 f_rt (nmc (Ne.symm (h_neA f_pb f_rt)) nm0)
  have hkp : kp [pb] h h17 := kp_tr2 hkp hk9 (List.forall_mem_cons.mpr ⟨Or.inl (by simp), List.forall_mem_nil _⟩)
  have f_pb : h17 pb = some (.inl ((t 0), 2048, .inl f)) := f_pb2
  refine lv_aload_n hx hb d_Pg_fillWithDescriptor_49 rfl (lv_at hl 0 rfl) ?_
  refine lv_sipush (v := 148) hx hb d_Pg_fillWithDescriptor_50 (by decide) ?_
  refine lv_iconst (v := 4) hx hb d_Pg_fillWithDescriptor_53 (by decide) ?_
  refine lv_iload_n hx hb d_Pg_fillWithDescriptor_54 rfl (lv_at hl 2 rfl) ?_
  refine lv_bipush (v := 19) hx hb d_Pg_fillWithDescriptor_55 (by decide) ?_
  refine lv_iadd hx hb d_Pg_fillWithDescriptor_57 ?_
  refine hm_callv (va_runV (As := [.int 148, .int 4, .int (bs + 19)]) (b := pg) (rest := []) ⟨hx, hb, hml, hown, hts⟩ (c_Page_putHigh l D t G ak av h17 pg pb 2048 148 4 (bs + 19) f_pg ⟨f, hfit, f_pb⟩ (by decide)) ⟨cw9B 3 hts mw_112 mw_113 mw_52 rfl rfl (by decide +kernel) ⟨Nat.le_of_ble_eq_true rfl, Nat.le_of_ble_eq_true rfl⟩, hts _ mw_114, hts _ mw_115⟩ (hP_V (q := (R_Pg, F_Pg, 1)) kE_ok hE hK hH f_pg rfl) rfl rfl hl.1 rfl (lv_room (Nat.le_of_ble_eq_true rfl)) d_Pg_fillWithDescriptor_58 ⟨Nat.le_of_ble_eq_true rfl, Nat.le_of_ble_eq_true rfl⟩) hLo (fun h21 H22 locs hp24 hH z23 hLo => ?_)
  have hz : s.heap.size ≤ H22.size := Nat.le_trans hz z23
  obtain ⟨hk9, f, hfit, f_pb2⟩ := hp24
  have f_pg : h21 pg = some (.inr (3, [.ref pb])) := kp_at hk9 f_pg (nmc (Ne.symm (h_neA f_pb f_pg)) nm0)
  have f_md : h21 md = some (.inr (0, [.ref sa, .int (nI fr)])) := kp_at hk9 f_md (nmc (Ne.symm (h_neA f_pb f_md)) nm0)
  have f_sa : h21 sa = some (.inl ((t 5), n, .inr (.inr (.inr (.inr fa))))) := kp_at hk9 f_sa (nmc (h_neK (k1 := 4) (k2 := 0) f_sa f_pb rfl rfl (by decide)) nm0)
  have f_rt : h21 rt = some (.inr (1, [.int 0, .null, .int 1, .long 0, .int 0, .int 0, .int 0, .int 0, .int 0, .int sc, .int np])) := kp_at hk9 f_rt (nmc (Ne.symm (h_neA f_pb f_rt)) nm0)
  have hkp : kp [pb] h h21 := kp_tr2 hkp hk9 (List.forall_mem_cons.mpr ⟨Or.inl (by simp), List.forall_mem_nil _⟩)
  have f_pb : h21 pb = some (.inl ((t 0), 2048, .inl f)) := f_pb2
  refine lv_aload_n hx hb d_Pg_fillWithDescriptor_61 rfl (lv_at hl 0 rfl) ?_
  refine lv_sipush (v := 156) hx hb d_Pg_fillWithDescriptor_62 (by decide) ?_
  refine lv_aload hx hb d_Pg_fillWithDescriptor_65 (lv_at hl 4 rfl) ?_
  refine lv_iconst (v := 0) hx hb d_Pg_fillWithDescriptor_67 (by decide) ?_
  refine hm_calli (va_runV (As := [.int 156, .ref rt, .int 0]) (b := pg) (rest := []) ⟨hx, hb, hml, hown, hts⟩ (c_Page_putRecord_root0 l D t G ak av h21 pg pb rt 156 sc np f_pg ⟨f, hfit, f_pb⟩ f_rt) ⟨cw9B 3 hts mw_145 mw_146 mw_52 rfl rfl (by decide +kernel) ⟨Nat.le_of_ble_eq_true rfl, Nat.le_of_ble_eq_true rfl⟩, hts _ mw_147, hts _ mw_148⟩ (hP_V (q := (R_Pg, F_Pg, 1)) kE_ok hE hK hH f_pg rfl) rfl rfl hl.1 rfl (lv_room (Nat.le_of_ble_eq_true rfl)) d_Pg_fillWithDescriptor_68 ⟨Nat.le_of_ble_eq_true rfl, Nat.le_of_ble_eq_true rfl⟩) hLo (fun r25 h26 H27 locs hp29 hH z28 hLo => ?_)
  have hz : s.heap.size ≤ H27.size := Nat.le_trans hz z28
  obtain ⟨rfl, hp9⟩ := hp29
  obtain ⟨hk9, f, hfit, f_pb2⟩ := hp9
  have f_pg : h26 pg = some (.inr (3, [.ref pb])) := kp_at hk9 f_pg (nmc (Ne.symm (h_neA f_pb f_pg)) nm0)
  have f_md : h26 md = some (.inr (0, [.ref sa, .int (nI fr)])) := kp_at hk9 f_md (nmc (Ne.symm (h_neA f_pb f_md)) nm0)
  have f_sa : h26 sa = some (.inl ((t 5), n, .inr (.inr (.inr (.inr fa))))) := kp_at hk9 f_sa (nmc (h_neK (k1 := 4) (k2 := 0) f_sa f_pb rfl rfl (by decide)) nm0)
  have f_rt : h26 rt = some (.inr (1, [.int 0, .null, .int 1, .long 0, .int 0, .int 0, .int 0, .int 0, .int 0, .int sc, .int np])) := kp_at hk9 f_rt (nmc (Ne.symm (h_neA f_pb f_rt)) nm0)
  have hkp : kp [pb] h h26 := kp_tr2 hkp hk9 (List.forall_mem_cons.mpr ⟨Or.inl (by simp), List.forall_mem_nil _⟩)
  have f_pb : h26 pb = some (.inl ((t 0), 2048, .inl f)) := f_pb2
  refine lv_pop hx hb d_Pg_fillWithDescriptor_71 rfl ?_
  exact W.vret hx hb hr (fun t9 ht hW => ⟨h26, rfl, ⟨hkp, f, hfit, f_pb⟩, by rw [ht]; exact hH, by rw [ht]; exact hz⟩) hLo d_Pg_fillWithDescriptor_72

set_option maxHeartbeats 4000000 in
set_option maxRecDepth 100000 in
theorem c_Page_pathtable (l : Launch) (D : va_G) (t : Nat → ClassId) (G : Heap) (ak av : Nat → Nat) (h : hM) (pg pb od rt : Nat) (g : Nat → Option Nat) (lw sc np : Int32) (f_pg : h pg = some (.inr (3, [.ref pb]))) (hpb : pgF t h pb 2048) (f_od : h od = some (.inl ((t 4), 30, .inr (.inr (.inr (.inr g)))))) (f_rt : h rt = some (.inr (1, [.int 0, .null, .int 1, .long 0, .int 0, .int 0, .int 0, .int 0, .int 0, .int sc, .int np]))) (hg0 : g 0 = some rt) : Met l y_Pg_fillWithPathTable (.code y_Pg_fillWithPathTable b_Pg_fillWithPathTable 7 (some .int) :: lw_g) { frames := 3, cells := 0, slots := 0, locals := 71 } (hP (kE D t G ak av) D vwCl G h [.ref pg, .ref od, .int 1, .int lw]) (hQi D vwCl G (fun r h' => r = 10 ∧ kp [pb, rt] h h' ∧ h' rt = some (.inr (1, [.int 0, .null, .int 1, .long 0, .int 0, .int 0, .int 0, .int 0, .int 0, .int sc, .int (0 + 1)])) ∧ pgF t h' pb 2048)) 0 0 (fun q => G.size ≤ q) := by
  refine Met.ofW (cc := b_Pg_fillWithPathTable) (maxL := 7) (ret := (some .int)) (by decide) rfl ?_
  intro p e s m args below meth c s₁ Bd hml hv
  obtain ⟨ha, hE, hH⟩ := hv
  have hx := Bd.exec
  have hb := Bd.bytes
  have hr := Bd.returns
  have hts : ∀ w ∈ lw_g, w.before args s = true := fun w hw => atoms_spec (ws := (.code y_Pg_fillWithPathTable b_Pg_fillWithPathTable 7 (some .int) :: lw_g)) Bd.pre w (List.mem_cons_of_mem _ hw)
  have hown : s.vm.findClass R_Pg = some m.cls := findClass_of_methodNamed Bd.named
  have hlocks := Bd.notSynchronized
  have hK := hE.1
  have hH0 := hH
  have hLo : hLc G.size [] := hLc_nil
  have hz : s.heap.size ≤ s.heap.size := Nat.le_refl _
  have hkp : kp [pb, rt] h h := kp_rf
  have hl := lv_entry [.ref pg, .ref od, .int 1, .int lw] (n := 7) (Nat.le_of_ble_eq_true rfl)
  rw [show entryFrame m args 7 = F0 m 0 ((lg_sl [.ref pg, .ref od, .int 1, .int lw] ++ List.replicate (7 - (lg_sl [.ref pg, .ref od, .int 1, .int lw]).length) Slot.unset).toArray) [] from (by rw [ha]; exact lg_entry_eq m [.ref pg, .ref od, .int 1, .int lw] 7)]
  generalize (lg_sl [.ref pg, .ref od, .int 1, .int lw] ++ List.replicate (7 - (lg_sl [.ref pg, .ref od, .int 1, .int lw]).length) Slot.unset).toArray = ls at hl ⊢
  have hl : lv_has ls 7 [(0, .ref pg), (1, .ref od), (2, .int 1), (3, .int lw)] := hl
  obtain ⟨f, hfit, f_pb⟩ := hpb
  refine lv_aload_n hx hb d_Pg_fillWithPathTable_0 rfl (lv_at hl 0 rfl) ?_
  refine hm_callv (va_runV (As := []) (b := pg) (rest := []) ⟨hx, hb, hml, hown, hts⟩ (c_Page_clear l D t G ak av h pg pb 2048  f_pg ⟨f, hfit, f_pb⟩ (by decide)) ⟨cw9B 0 hts mw_132 mw_133 mw_52 rfl rfl (by decide +kernel) ⟨Nat.le_of_ble_eq_true rfl, Nat.le_of_ble_eq_true rfl⟩, hts _ mw_134, hts _ mw_135⟩ (hP_V (q := (R_Pg, F_Pg, 1)) kE_ok hE hK hH f_pg rfl) rfl rfl hl.1 rfl (lv_room (Nat.le_of_ble_eq_true rfl)) d_Pg_fillWithPathTable_1 ⟨Nat.le_of_ble_eq_true rfl, Nat.le_of_ble_eq_true rfl⟩) hLo (fun h1 H2 locs hp4 hH z3 hLo => ?_)
  have hz : s.heap.size ≤ H2.size := Nat.le_trans hz z3
  obtain ⟨hk9, f, hfit, f_pb2⟩ := hp4
  have f_pg : h1 pg = some (.inr (3, [.ref pb])) := kp_at hk9 f_pg (nmc (Ne.symm (h_neA f_pb f_pg)) nm0)
  have f_od : h1 od = some (.inl ((t 4), 30, .inr (.inr (.inr (.inr g))))) := kp_at hk9 f_od (nmc (h_neK (k1 := 4) (k2 := 0) f_od f_pb rfl rfl (by decide)) nm0)
  have f_rt : h1 rt = some (.inr (1, [.int 0, .null, .int 1, .long 0, .int 0, .int 0, .int 0, .int 0, .int 0, .int sc, .int np])) := kp_at hk9 f_rt (nmc (Ne.symm (h_neA f_pb f_rt)) nm0)
  have hkp : kp [pb, rt] h h1 := kp_tr2 hkp hk9 (List.forall_mem_cons.mpr ⟨Or.inl (by simp), List.forall_mem_nil _⟩)
  have f_pb : h1 pb = some (.inl ((t 0), 2048, .inl f)) := f_pb2
  refine lv_iconst (v := 0) hx hb d_Pg_fillWithPathTable_4 (by decide) ?_
  refine lv_istore (lv' := [(4, .int 0), (0, .ref pg), (1, .ref od), (2, .int 1), (3, .int lw)]) hx hb d_Pg_fillWithPathTable_5 hl (by decide) rfl (fun ls hl => ?_)
  refine lv_iconst (v := 0) hx hb d_Pg_fillWithPathTable_7 (by decide) ?_
  refine lv_istore (lv' := [(5, .int 0), (4, .int 0), (0, .ref pg), (1, .ref od), (2, .int 1), (3, .int lw)]) hx hb d_Pg_fillWithPathTable_8 hl (by decide) rfl (fun ls hl => ?_)
  refine lv_iconst (v := 0) hx hb d_Pg_fillWithPathTable_10 (by decide) ?_
  refine lv_istore (lv' := [(6, .int 0), (5, .int 0), (4, .int 0), (0, .ref pg), (1, .ref od), (2, .int 1), (3, .int lw)]) hx hb d_Pg_fillWithPathTable_11 hl (by decide) rfl (fun ls hl => ?_)
  refine lv_iload hx hb d_Pg_fillWithPathTable_13 (lv_at hl 0 rfl) ?_
  refine lv_iload_n hx hb d_Pg_fillWithPathTable_15 rfl (lv_at hl 5 rfl) ?_
  refine lv_icmp_ge (tgt := 67) hx hb d_Pg_fillWithPathTable_16 (by decide) (fun hc5 => absurd hc5 (by decide)) (fun hc5 => ?_)
  refine lv_iload hx hb d_Pg_fillWithPathTable_19 (lv_at hl 0 rfl) ?_
  refine lv_aload_n hx hb d_Pg_fillWithPathTable_21 rfl (lv_at hl 4 rfl) ?_
  refine hm_alen (v := 30) hx hb hK hH 4 f_od (ty := (.object "WriteOnceDisc$Node")) rfl (show Int32.ofNat 30 = 30 by decide) d_Pg_fillWithPathTable_22 ?_
  refine lv_icmp_ge (tgt := 67) hx hb d_Pg_fillWithPathTable_23 (by decide) (fun hc6 => absurd hc6 (by decide)) (fun hc6 => ?_)
  refine lv_aload_n hx hb d_Pg_fillWithPathTable_26 rfl (lv_at hl 4 rfl) ?_
  refine lv_iload hx hb d_Pg_fillWithPathTable_27 (lv_at hl 0 rfl) ?_
  refine hj_aald (v := .ref rt) hx hb hK hH 4 f_od (C := R_No) rfl 0 (by decide) (by decide) (by decide) (by rw [hg0]; rfl) d_Pg_fillWithPathTable_29 ?_
  refine hm_get (ci := 1) (v := .int 1) (C := R_No) (T := F_No) (N := 11) hx hb hts ig_No hown hK hH f_rt rfl 2 (by decide) (hts _ mw_131) (fun _ h9 => h9) rfl d_Pg_fillWithPathTable_30 ?_
  refine lv_if_eq (tgt := 61) hx hb d_Pg_fillWithPathTable_33 (by decide) (fun hc7 => absurd hc7 (by decide)) (fun hc7 => ?_)
  refine lv_iinc (v := 0 + 1) (lv' := [(5, .int (0 + 1)), (6, .int 0), (4, .int 0), (0, .ref pg), (1, .ref od), (2, .int 1), (3, .int lw)]) hx hb d_Pg_fillWithPathTable_36 hl (k := 1) rfl (by rfl) (by decide) rfl (fun ls hl => ?_)
  refine lv_aload_n hx hb d_Pg_fillWithPathTable_39 rfl (lv_at hl 4 rfl) ?_
  refine lv_iload hx hb d_Pg_fillWithPathTable_40 (lv_at hl 1 rfl) ?_
  refine hj_aald (v := .ref rt) hx hb hK hH 4 f_od (C := R_No) rfl 0 (by decide) (by decide) (by decide) (by rw [hg0]; rfl) d_Pg_fillWithPathTable_42 ?_
  refine lv_iload hx hb d_Pg_fillWithPathTable_43 (lv_at hl 0 rfl) ?_
  refine hm_put (ci := 1) (v := .int (0 + 1)) (ty := .int) (C := R_No) (T := F_No) (N := 11) hx hb hts ig_No t_No tk_No nm_No hown hK hH hLo f_rt rfl 10 (by decide) (hts _ mw_149) (fun _ h9 => h9) rfl (by decide +kernel) rfl rfl (Nat.le_of_ble_eq_true rfl) d_Pg_fillWithPathTable_45 (fun H8 locs hH z9 hLo => ?_)
  have hz : s.heap.size ≤ H8.size := by rw [z9]; exact hz
  obtain ⟨h10, e11⟩ : ∃ z, z = hu h1 rt (.inr (1, [.int 0, .null, .int 1, .long 0, .int 0, .int 0, .int 0, .int 0, .int 0, .int sc, .int (0 + 1)])) := ⟨_, rfl⟩
  have hH : hm D vwCl G h10 H8 := by rw [e11]; exact hH
  have f_pg : h10 pg = some (.inr (3, [.ref pb])) := by rw [e11, hu_n (h_neC f_pg f_rt (by decide))]; exact f_pg
  have f_od : h10 od = some (.inl ((t 4), 30, .inr (.inr (.inr (.inr g))))) := by rw [e11, hu_n (h_neA f_od f_rt)]; exact f_od
  have f_pb : h10 pb = some (.inl ((t 0), 2048, .inl f)) := by rw [e11, hu_n (h_neA f_pb f_rt)]; exact f_pb
  have f_rt : h10 rt = some (.inr (1, [.int 0, .null, .int 1, .long 0, .int 0, .int 0, .int 0, .int 0, .int 0, .int sc, .int (0 + 1)])) := by rw [e11]; exact hu_s _ _ _
  have hkp : kp [pb, rt] h h10 := by rw [e11]; exact kp_put hkp (by simp)
  refine lv_aload_n hx hb d_Pg_fillWithPathTable_48 rfl (lv_at hl 3 rfl) ?_
  refine lv_iload hx hb d_Pg_fillWithPathTable_49 (lv_at hl 2 rfl) ?_
  refine lv_aload_n hx hb d_Pg_fillWithPathTable_51 rfl (lv_at hl 4 rfl) ?_
  refine lv_iload hx hb d_Pg_fillWithPathTable_52 (lv_at hl 1 rfl) ?_
  refine hj_aald (v := .ref rt) hx hb hK hH 4 f_od (C := R_No) rfl 0 (by decide) (by decide) (by decide) (by rw [hg0]; rfl) d_Pg_fillWithPathTable_54 ?_
  refine lv_iload_n hx hb d_Pg_fillWithPathTable_55 rfl (lv_at hl 6 rfl) ?_
  refine hm_calli (va_runV (As := [.int 0, .ref rt, .int lw]) (b := pg) (rest := []) ⟨hx, hb, hml, hown, hts⟩ (c_Page_putEntry_root l D t G ak av h10 pg pb rt 0 lw sc (0 + 1) f_pg ⟨f, hfit, f_pb⟩ f_rt) ⟨cw9B 3 hts mw_150 mw_151 mw_52 rfl rfl (by decide +kernel) ⟨Nat.le_of_ble_eq_true rfl, Nat.le_of_ble_eq_true rfl⟩, hts _ mw_152, hts _ mw_153⟩ (hP_V (q := (R_Pg, F_Pg, 1)) kE_ok hE hK hH f_pg rfl) rfl rfl hl.1 rfl (lv_room (Nat.le_of_ble_eq_true rfl)) d_Pg_fillWithPathTable_56 ⟨Nat.le_of_ble_eq_true rfl, Nat.le_of_ble_eq_true rfl⟩) hLo (fun r12 h13 H14 locs hp16 hH z15 hLo => ?_)
  have hz : s.heap.size ≤ H14.size := Nat.le_trans hz z15
  obtain ⟨rfl, hp9⟩ := hp16
  obtain ⟨hk9, f, hfit, f_pb2⟩ := hp9
  have f_pg : h13 pg = some (.inr (3, [.ref pb])) := kp_at hk9 f_pg (nmc (Ne.symm (h_neA f_pb f_pg)) nm0)
  have f_od : h13 od = some (.inl ((t 4), 30, .inr (.inr (.inr (.inr g))))) := kp_at hk9 f_od (nmc (h_neK (k1 := 4) (k2 := 0) f_od f_pb rfl rfl (by decide)) nm0)
  have f_rt : h13 rt = some (.inr (1, [.int 0, .null, .int 1, .long 0, .int 0, .int 0, .int 0, .int 0, .int 0, .int sc, .int (0 + 1)])) := kp_at hk9 f_rt (nmc (Ne.symm (h_neA f_pb f_rt)) nm0)
  have hkp : kp [pb, rt] h h13 := kp_tr2 hkp hk9 (List.forall_mem_cons.mpr ⟨Or.inl (by simp), List.forall_mem_nil _⟩)
  have f_pb : h13 pb = some (.inl ((t 0), 2048, .inl f)) := f_pb2
  refine lv_istore (lv' := [(4, .int (0 + 8 + (1 + (1 - 1 / 2 * 2)))), (5, .int (0 + 1)), (6, .int 0), (0, .ref pg), (1, .ref od), (2, .int 1), (3, .int lw)]) hx hb d_Pg_fillWithPathTable_59 hl (by decide) rfl (fun ls hl => ?_)
  refine lv_iinc (v := 0 + 1) (lv' := [(6, .int (0 + 1)), (4, .int (0 + 8 + (1 + (1 - 1 / 2 * 2)))), (5, .int (0 + 1)), (0, .ref pg), (1, .ref od), (2, .int 1), (3, .int lw)]) hx hb d_Pg_fillWithPathTable_61 hl (k := 2) rfl (by rfl) (by decide) rfl (fun ls hl => ?_)
  refine lv_goto (tgt := 13) hx hb d_Pg_fillWithPathTable_64 (by decide) ?_
  refine lv_iload hx hb d_Pg_fillWithPathTable_13 (lv_at hl 0 rfl) ?_
  refine lv_iload_n hx hb d_Pg_fillWithPathTable_15 rfl (lv_at hl 5 rfl) ?_
  refine lv_icmp_ge (tgt := 67) hx hb d_Pg_fillWithPathTable_16 (by decide) (fun hc17 => ?_) (fun hc17 => absurd (by decide) hc17)
  refine lv_iload hx hb d_Pg_fillWithPathTable_67 (lv_at hl 1 rfl) ?_
  exact W.iret (v := 0 + 8 + (1 + (1 - 1 / 2 * 2))) hx hb hr (fun t9 ht hW => ⟨0 + 8 + (1 + (1 - 1 / 2 * 2)), h13, rfl, ⟨by decide, hkp, f_rt, f, hfit, f_pb⟩, by rw [ht]; exact hH, by rw [ht]; exact hz⟩) hLo d_Pg_fillWithPathTable_69

set_option maxHeartbeats 4000000 in
set_option maxRecDepth 100000 in
theorem c_Page_directory (l : Launch) (D : va_G) (t : Nat → ClassId) (G : Heap) (ak av : Nat → Nat) (h : hM) (pg pb od rt : Nat) (g : Nat → Option Nat) (sc np : Int32) (f_pg : h pg = some (.inr (3, [.ref pb]))) (hpb : pgF t h pb 2048) (f_od : h od = some (.inl ((t 4), 30, .inr (.inr (.inr (.inr g)))))) (f_rt : h rt = some (.inr (1, [.int 0, .null, .int 1, .long 0, .int 0, .int 0, .int 0, .int 0, .int 0, .int sc, .int np]))) (hg0 : g 0 = some rt) : Met l y_Pg_fillWithDirectory (.code y_Pg_fillWithDirectory b_Pg_fillWithDirectory 6 none :: lw_g) { frames := 3, cells := 0, slots := 0, locals := 71 } (hP (kE D t G ak av) D vwCl G h [.ref pg, .ref rt, .ref od, .int 1]) (hQv D vwCl G (fun h' => kp [pb] h h' ∧ pgF t h' pb 2048)) 0 0 (fun q => G.size ≤ q) := by
  refine Met.ofW (cc := b_Pg_fillWithDirectory) (maxL := 6) (ret := none) (by decide) rfl ?_
  intro p e s m args below meth c s₁ Bd hml hv
  obtain ⟨ha, hE, hH⟩ := hv
  have hx := Bd.exec
  have hb := Bd.bytes
  have hr := Bd.returns
  have hts : ∀ w ∈ lw_g, w.before args s = true := fun w hw => atoms_spec (ws := (.code y_Pg_fillWithDirectory b_Pg_fillWithDirectory 6 none :: lw_g)) Bd.pre w (List.mem_cons_of_mem _ hw)
  have hown : s.vm.findClass R_Pg = some m.cls := findClass_of_methodNamed Bd.named
  have hlocks := Bd.notSynchronized
  have hK := hE.1
  have hH0 := hH
  have hLo : hLc G.size [] := hLc_nil
  have hz : s.heap.size ≤ s.heap.size := Nat.le_refl _
  have hkp : kp [pb] h h := kp_rf
  have hl := lv_entry [.ref pg, .ref rt, .ref od, .int 1] (n := 6) (Nat.le_of_ble_eq_true rfl)
  rw [show entryFrame m args 6 = F0 m 0 ((lg_sl [.ref pg, .ref rt, .ref od, .int 1] ++ List.replicate (6 - (lg_sl [.ref pg, .ref rt, .ref od, .int 1]).length) Slot.unset).toArray) [] from (by rw [ha]; exact lg_entry_eq m [.ref pg, .ref rt, .ref od, .int 1] 6)]
  generalize (lg_sl [.ref pg, .ref rt, .ref od, .int 1] ++ List.replicate (6 - (lg_sl [.ref pg, .ref rt, .ref od, .int 1]).length) Slot.unset).toArray = ls at hl ⊢
  have hl : lv_has ls 6 [(0, .ref pg), (1, .ref rt), (2, .ref od), (3, .int 1)] := hl
  obtain ⟨f, hfit, f_pb⟩ := hpb
  refine lv_aload_n hx hb d_Pg_fillWithDirectory_0 rfl (lv_at hl 0 rfl) ?_
  refine hm_callv (va_runV (As := []) (b := pg) (rest := []) ⟨hx, hb, hml, hown, hts⟩ (c_Page_clear l D t G ak av h pg pb 2048  f_pg ⟨f, hfit, f_pb⟩ (by decide)) ⟨cw9B 0 hts mw_132 mw_133 mw_52 rfl rfl (by decide +kernel) ⟨Nat.le_of_ble_eq_true rfl, Nat.le_of_ble_eq_true rfl⟩, hts _ mw_134, hts _ mw_135⟩ (hP_V (q := (R_Pg, F_Pg, 1)) kE_ok hE hK hH f_pg rfl) rfl rfl hl.1 rfl (lv_room (Nat.le_of_ble_eq_true rfl)) d_Pg_fillWithDirectory_1 ⟨Nat.le_of_ble_eq_true rfl, Nat.le_of_ble_eq_true rfl⟩) hLo (fun h1 H2 locs hp4 hH z3 hLo => ?_)
  have hz : s.heap.size ≤ H2.size := Nat.le_trans hz z3
  obtain ⟨hk9, f, hfit, f_pb2⟩ := hp4
  have f_pg : h1 pg = some (.inr (3, [.ref pb])) := kp_at hk9 f_pg (nmc (Ne.symm (h_neA f_pb f_pg)) nm0)
  have f_od : h1 od = some (.inl ((t 4), 30, .inr (.inr (.inr (.inr g))))) := kp_at hk9 f_od (nmc (h_neK (k1 := 4) (k2 := 0) f_od f_pb rfl rfl (by decide)) nm0)
  have f_rt : h1 rt = some (.inr (1, [.int 0, .null, .int 1, .long 0, .int 0, .int 0, .int 0, .int 0, .int 0, .int sc, .int np])) := kp_at hk9 f_rt (nmc (Ne.symm (h_neA f_pb f_rt)) nm0)
  have hkp : kp [pb] h h1 := kp_tr2 hkp hk9 (List.forall_mem_cons.mpr ⟨Or.inl (by simp), List.forall_mem_nil _⟩)
  have f_pb : h1 pb = some (.inl ((t 0), 2048, .inl f)) := f_pb2
  refine lv_aload_n hx hb d_Pg_fillWithDirectory_4 rfl (lv_at hl 0 rfl) ?_
  refine lv_iconst (v := 0) hx hb d_Pg_fillWithDirectory_5 (by decide) ?_
  refine lv_aload_n hx hb d_Pg_fillWithDirectory_6 rfl (lv_at hl 1 rfl) ?_
  refine lv_iconst (v := 0) hx hb d_Pg_fillWithDirectory_7 (by decide) ?_
  refine hm_calli (va_runV (As := [.int 0, .ref rt, .int 0]) (b := pg) (rest := []) ⟨hx, hb, hml, hown, hts⟩ (c_Page_putRecord_root0 l D t G ak av h1 pg pb rt 0 sc np f_pg ⟨f, hfit, f_pb⟩ f_rt) ⟨cw9B 3 hts mw_145 mw_146 mw_52 rfl rfl (by decide +kernel) ⟨Nat.le_of_ble_eq_true rfl, Nat.le_of_ble_eq_true rfl⟩, hts _ mw_147, hts _ mw_148⟩ (hP_V (q := (R_Pg, F_Pg, 1)) kE_ok hE hK hH f_pg rfl) rfl rfl hl.1 rfl (lv_room (Nat.le_of_ble_eq_true rfl)) d_Pg_fillWithDirectory_8 ⟨Nat.le_of_ble_eq_true rfl, Nat.le_of_ble_eq_true rfl⟩) hLo (fun r5 h6 H7 locs hp9 hH z8 hLo => ?_)
  have hz : s.heap.size ≤ H7.size := Nat.le_trans hz z8
  obtain ⟨rfl, hp9⟩ := hp9
  obtain ⟨hk9, f, hfit, f_pb2⟩ := hp9
  have f_pg : h6 pg = some (.inr (3, [.ref pb])) := kp_at hk9 f_pg (nmc (Ne.symm (h_neA f_pb f_pg)) nm0)
  have f_od : h6 od = some (.inl ((t 4), 30, .inr (.inr (.inr (.inr g))))) := kp_at hk9 f_od (nmc (h_neK (k1 := 4) (k2 := 0) f_od f_pb rfl rfl (by decide)) nm0)
  have f_rt : h6 rt = some (.inr (1, [.int 0, .null, .int 1, .long 0, .int 0, .int 0, .int 0, .int 0, .int 0, .int sc, .int np])) := kp_at hk9 f_rt (nmc (Ne.symm (h_neA f_pb f_rt)) nm0)
  have hkp : kp [pb] h h6 := kp_tr2 hkp hk9 (List.forall_mem_cons.mpr ⟨Or.inl (by simp), List.forall_mem_nil _⟩)
  have f_pb : h6 pb = some (.inl ((t 0), 2048, .inl f)) := f_pb2
  refine lv_istore (lv' := [(4, .int (0 + 34)), (0, .ref pg), (1, .ref rt), (2, .ref od), (3, .int 1)]) hx hb d_Pg_fillWithDirectory_11 hl (by decide) rfl (fun ls hl => ?_)
  refine lv_aload_n hx hb d_Pg_fillWithDirectory_13 rfl (lv_at hl 1 rfl) ?_
  refine lv_iload hx hb d_Pg_fillWithDirectory_14 (lv_at hl 0 rfl) ?_
  refine lv_aload_n hx hb d_Pg_fillWithDirectory_16 rfl (lv_at hl 2 rfl) ?_
  refine hm_get (ci := 1) (v := .null) (C := R_No) (T := F_No) (N := 11) hx hb hts ig_No hown hK hH f_rt rfl 1 (by decide) (hts _ mw_110) (fun _ h9 => h9) rfl d_Pg_fillWithDirectory_17 ?_
  refine lv_ifnonnullN hx hb d_Pg_fillWithDirectory_20 ?_
  refine lv_aload_n hx hb d_Pg_fillWithDirectory_23 rfl (lv_at hl 2 rfl) ?_
  refine lv_goto (tgt := 31) hx hb d_Pg_fillWithDirectory_24 (by decide) ?_
  refine lv_iconst (v := 1) hx hb d_Pg_fillWithDirectory_31 (by decide) ?_
  refine hm_calli (va_runV (As := [.int (0 + 34), .ref rt, .int 1]) (b := pg) (rest := []) ⟨hx, hb, hml, hown, hts⟩ (c_Page_putRecord_root1 l D t G ak av h6 pg pb rt (0 + 34) sc np f_pg ⟨f, hfit, f_pb⟩ f_rt) ⟨cw9B 3 hts mw_145 mw_146 mw_52 rfl rfl (by decide +kernel) ⟨Nat.le_of_ble_eq_true rfl, Nat.le_of_ble_eq_true rfl⟩, hts _ mw_147, hts _ mw_148⟩ (hP_V (q := (R_Pg, F_Pg, 1)) kE_ok hE hK hH f_pg rfl) rfl rfl hl.1 rfl (lv_room (Nat.le_of_ble_eq_true rfl)) d_Pg_fillWithDirectory_32 ⟨Nat.le_of_ble_eq_true rfl, Nat.le_of_ble_eq_true rfl⟩) hLo (fun r10 h11 H12 locs hp14 hH z13 hLo => ?_)
  have hz : s.heap.size ≤ H12.size := Nat.le_trans hz z13
  obtain ⟨rfl, hp9⟩ := hp14
  obtain ⟨hk9, f, hfit, f_pb2⟩ := hp9
  have f_pg : h11 pg = some (.inr (3, [.ref pb])) := kp_at hk9 f_pg (nmc (Ne.symm (h_neA f_pb f_pg)) nm0)
  have f_od : h11 od = some (.inl ((t 4), 30, .inr (.inr (.inr (.inr g))))) := kp_at hk9 f_od (nmc (h_neK (k1 := 4) (k2 := 0) f_od f_pb rfl rfl (by decide)) nm0)
  have f_rt : h11 rt = some (.inr (1, [.int 0, .null, .int 1, .long 0, .int 0, .int 0, .int 0, .int 0, .int 0, .int sc, .int np])) := kp_at hk9 f_rt (nmc (Ne.symm (h_neA f_pb f_rt)) nm0)
  have hkp : kp [pb] h h11 := kp_tr2 hkp hk9 (List.forall_mem_cons.mpr ⟨Or.inl (by simp), List.forall_mem_nil _⟩)
  have f_pb : h11 pb = some (.inl ((t 0), 2048, .inl f)) := f_pb2
  refine lv_istore (lv' := [(4, .int (0 + 34 + 34)), (0, .ref pg), (1, .ref rt), (2, .ref od), (3, .int 1)]) hx hb d_Pg_fillWithDirectory_35 hl (by decide) rfl (fun ls hl => ?_)
  refine lv_iconst (v := 0) hx hb d_Pg_fillWithDirectory_37 (by decide) ?_
  refine lv_istore (lv' := [(5, .int 0), (4, .int (0 + 34 + 34)), (0, .ref pg), (1, .ref rt), (2, .ref od), (3, .int 1)]) hx hb d_Pg_fillWithDirectory_38 hl (by decide) rfl (fun ls hl => ?_)
  refine lv_iload hx hb d_Pg_fillWithDirectory_40 (lv_at hl 0 rfl) ?_
  refine lv_iload_n hx hb d_Pg_fillWithDirectory_42 rfl (lv_at hl 5 rfl) ?_
  refine lv_icmp_ge (tgt := 83) hx hb d_Pg_fillWithDirectory_43 (by decide) (fun hc15 => absurd hc15 (by decide)) (fun hc15 => ?_)
  refine lv_iload hx hb d_Pg_fillWithDirectory_46 (lv_at hl 0 rfl) ?_
  refine lv_aload_n hx hb d_Pg_fillWithDirectory_48 rfl (lv_at hl 4 rfl) ?_
  refine hm_alen (v := 30) hx hb hK hH 4 f_od (ty := (.object "WriteOnceDisc$Node")) rfl (show Int32.ofNat 30 = 30 by decide) d_Pg_fillWithDirectory_49 ?_
  refine lv_icmp_ge (tgt := 83) hx hb d_Pg_fillWithDirectory_50 (by decide) (fun hc16 => absurd hc16 (by decide)) (fun hc16 => ?_)
  refine lv_aload_n hx hb d_Pg_fillWithDirectory_53 rfl (lv_at hl 4 rfl) ?_
  refine lv_iload hx hb d_Pg_fillWithDirectory_54 (lv_at hl 0 rfl) ?_
  refine hj_aald (v := .ref rt) hx hb hK hH 4 f_od (C := R_No) rfl 0 (by decide) (by decide) (by decide) (by rw [hg0]; rfl) d_Pg_fillWithDirectory_56 ?_
  refine hm_get (ci := 1) (v := .null) (C := R_No) (T := F_No) (N := 11) hx hb hts ig_No hown hK hH f_rt rfl 1 (by decide) (hts _ mw_110) (fun _ h9 => h9) rfl d_Pg_fillWithDirectory_57 ?_
  refine lv_aload_n hx hb d_Pg_fillWithDirectory_60 rfl (lv_at hl 3 rfl) ?_
  refine lv_acmp_ne (rx := none) (ry := some rt) (tgt := 77) hx hb d_Pg_fillWithDirectory_61 (by decide) (fun hc17 => ?_) (fun hc17 => absurd hc17 (by simp))
  refine lv_iinc (v := 0 + 1) (lv' := [(5, .int (0 + 1)), (4, .int (0 + 34 + 34)), (0, .ref pg), (1, .ref rt), (2, .ref od), (3, .int 1)]) hx hb d_Pg_fillWithDirectory_77 hl (k := 0) rfl (by rfl) (by decide) rfl (fun ls hl => ?_)
  refine lv_goto (tgt := 40) hx hb d_Pg_fillWithDirectory_80 (by decide) ?_
  refine lv_iload hx hb d_Pg_fillWithDirectory_40 (lv_at hl 0 rfl) ?_
  refine lv_iload_n hx hb d_Pg_fillWithDirectory_42 rfl (lv_at hl 5 rfl) ?_
  refine lv_icmp_ge (tgt := 83) hx hb d_Pg_fillWithDirectory_43 (by decide) (fun hc18 => ?_) (fun hc18 => absurd (by decide) hc18)
  exact W.vret hx hb hr (fun t9 ht hW => ⟨h11, rfl, ⟨hkp, f, hfit, f_pb⟩, by rw [ht]; exact hH, by rw [ht]; exact hz⟩) hLo d_Pg_fillWithDirectory_83
end
section
set_option maxRecDepth 100000 in
theorem mw_154 : Cond.methodLink R_Se 23 Lib.Math.min.name ∈ lw_g := lw_gin (List.mem_append_right _ (List.mem_of_getElem? (i := 442) rfl)) (by decide +kernel)
set_option maxRecDepth 100000 in
theorem mw_155 : Cond.static Lib.Math.min.name ∈ lw_g := lw_gin (List.mem_append_right _ (List.mem_of_getElem? (i := 408) rfl)) (by decide +kernel)
set_option maxRecDepth 100000 in
theorem mw_156 : Cond.initialized "java/lang/Math" ∈ lw_g := lw_gin (List.mem_append_right _ (List.mem_of_getElem? (i := 11) rfl)) (by decide +kernel)
set_option maxRecDepth 100000 in
theorem mw_157 : Cond.code Lib.Math.min.name Lib.Math.min.code 2 (some .int) ∈ lw_g := lw_gin (List.mem_append_right _ (List.mem_of_getElem? (i := 409) rfl)) (by decide +kernel)
set_option maxRecDepth 100000 in
theorem mw_158 : Cond.methodLink R_Se 29 arraycopyName ∈ lw_g := lw_gin (List.mem_append_right _ (List.mem_of_getElem? (i := 443) rfl)) (by decide +kernel)
set_option maxRecDepth 100000 in
theorem mw_159 : Cond.native arraycopyName ∈ lw_g := lw_gin (List.mem_append_right _ (List.mem_of_getElem? (i := 420) rfl)) (by decide +kernel)
set_option maxRecDepth 100000 in
theorem mw_160 : Cond.static arraycopyName ∈ lw_g := lw_gin (List.mem_append_right _ (List.mem_of_getElem? (i := 419) rfl)) (by decide +kernel)
set_option maxRecDepth 100000 in
theorem mw_161 : Cond.initialized "java/lang/System" ∈ lw_g := lw_gin (List.mem_append_right _ (List.mem_of_getElem? (i := 13) rfl)) (by decide +kernel)
set_option maxRecDepth 100000 in
theorem mw_162 : Cond.code y_Me_has b_Me_has 2 (some .boolean) ∈ lw_g := lw_gin (List.mem_append_right _ (List.mem_of_getElem? (i := 275) rfl)) (by decide +kernel)
set_option maxRecDepth 100000 in
theorem mw_163 : Cond.initialized R_Me ∈ lw_g := lw_gin (List.mem_append_right _ (List.mem_of_getElem? (i := 8) rfl)) (by decide +kernel)
set_option maxRecDepth 100000 in
theorem mw_164 : Cond.methodLink R_Me 28 y_Me_has ∈ lw_g := lw_gin (List.mem_append_right _ (List.mem_of_getElem? (i := 272) rfl)) (by decide +kernel)
set_option maxRecDepth 100000 in
theorem mw_165 : Cond.instanceMethod y_Me_has ∈ lw_g := lw_gin (List.mem_append_right _ (List.mem_of_getElem? (i := 273) rfl)) (by decide +kernel)
set_option maxRecDepth 100000 in
theorem mw_166 : Cond.selects R_Me y_Me_has y_Me_has ∈ lw_g := lw_gin (List.mem_append_right _ (List.mem_of_getElem? (i := 274) rfl)) (by decide +kernel)
set_option maxRecDepth 100000 in
theorem mw_167 : Cond.code y_Po_lastsForWrite b_Po_lastsForWrite 1 (some .boolean) ∈ lw_g := lw_gin (List.mem_append_right _ (List.mem_of_getElem? (i := 436) rfl)) (by decide +kernel)
set_option maxRecDepth 100000 in
theorem mw_168 : Cond.methodLink R_Me 36 y_Po_lastsForWrite ∈ lw_g := lw_gin (List.mem_append_right _ (List.mem_of_getElem? (i := 433) rfl)) (by decide +kernel)
set_option maxRecDepth 100000 in
theorem mw_169 : Cond.instanceMethod y_Po_lastsForWrite ∈ lw_g := lw_gin (List.mem_append_right _ (List.mem_of_getElem? (i := 434) rfl)) (by decide +kernel)
set_option maxRecDepth 100000 in
theorem mw_170 : Cond.selects R_Po y_Po_lastsForWrite y_Po_lastsForWrite ∈ lw_g := lw_gin (List.mem_append_right _ (List.mem_of_getElem? (i := 435) rfl)) (by decide +kernel)
set_option maxRecDepth 100000 in
theorem mw_171 : Cond.methodLink R_Me 42 Lib.Math.max.name ∈ lw_g := lw_gin (List.mem_append_right _ (List.mem_of_getElem? (i := 437) rfl)) (by decide +kernel)
set_option maxRecDepth 100000 in
theorem mw_172 : Cond.static Lib.Math.max.name ∈ lw_g := lw_gin (List.mem_append_right _ (List.mem_of_getElem? (i := 366) rfl)) (by decide +kernel)
set_option maxRecDepth 100000 in
theorem mw_173 : Cond.code Lib.Math.max.name Lib.Math.max.code 2 (some .int) ∈ lw_g := lw_gin (List.mem_append_right _ (List.mem_of_getElem? (i := 367) rfl)) (by decide +kernel)
set_option maxRecDepth 100000 in
theorem mw_174 : Cond.fieldLink R_Me 32 "WriteOnceDisc$Sector" "isDefective" "Z" ∈ lw_g := lw_gin (List.mem_append_right _ (List.mem_of_getElem? (i := 214) rfl)) (by decide +kernel)
set_option maxRecDepth 100000 in
theorem mw_175 : Cond.code y_Se_take b_Se_take 2 none ∈ lw_g := lw_gin (List.mem_append_right _ (List.mem_of_getElem? (i := 441) rfl)) (by decide +kernel)
set_option maxRecDepth 100000 in
theorem mw_176 : Cond.methodLink R_Me 48 y_Se_take ∈ lw_g := lw_gin (List.mem_append_right _ (List.mem_of_getElem? (i := 438) rfl)) (by decide +kernel)
set_option maxRecDepth 100000 in
theorem mw_177 : Cond.instanceMethod y_Se_take ∈ lw_g := lw_gin (List.mem_append_right _ (List.mem_of_getElem? (i := 439) rfl)) (by decide +kernel)
set_option maxRecDepth 100000 in
theorem mw_178 : Cond.selects R_Se y_Se_take y_Se_take ∈ lw_g := lw_gin (List.mem_append_right _ (List.mem_of_getElem? (i := 440) rfl)) (by decide +kernel)
set_option maxRecDepth 100000 in
theorem mw_179 : Cond.fieldLink R_Me 25 "WriteOnceDisc$Sector" "condition" "I" ∈ lw_g := lw_gin (List.mem_append_right _ (List.mem_of_getElem? (i := 211) rfl)) (by decide +kernel)
theorem d_Me_has_0 : decode b_Me_has 0 = .ok (.iload_n 1, 1) := by decide +kernel
theorem d_Me_has_1 : decode b_Me_has 1 = .ok (.ifCond .lt 16, 3) := by decide +kernel
theorem d_Me_has_17 : decode b_Me_has 17 = .ok (.iconst 0, 1) := by decide +kernel
theorem d_Me_has_18 : decode b_Me_has 18 = .ok (.ireturn, 1) := by decide +kernel
theorem d_Me_has_4 : decode b_Me_has 4 = .ok (.iload_n 1, 1) := by decide +kernel
theorem d_Me_has_5 : decode b_Me_has 5 = .ok (.aload_n 0, 1) := by decide +kernel
theorem d_Me_has_6 : decode b_Me_has 6 = .ok (.getfield 17, 3) := by decide +kernel
theorem d_Me_has_9 : decode b_Me_has 9 = .ok (.arraylength, 1) := by decide +kernel
theorem d_Me_has_10 : decode b_Me_has 10 = .ok (.if_icmp .ge 7, 3) := by decide +kernel
theorem d_Me_has_13 : decode b_Me_has 13 = .ok (.iconst 1, 1) := by decide +kernel
theorem d_Me_has_14 : decode b_Me_has 14 = .ok (.goto 4, 3) := by decide +kernel
theorem d_Me_hasRoom_0 : decode b_Me_hasRoom 0 = .ok (.iload_n 1, 1) := by decide +kernel
theorem d_Me_hasRoom_1 : decode b_Me_hasRoom 1 = .ok (.aload_n 0, 1) := by decide +kernel
theorem d_Me_hasRoom_2 : decode b_Me_hasRoom 2 = .ok (.getfield 17, 3) := by decide +kernel
theorem d_Me_hasRoom_5 : decode b_Me_hasRoom 5 = .ok (.arraylength, 1) := by decide +kernel
theorem d_Me_hasRoom_6 : decode b_Me_hasRoom 6 = .ok (.iload_n 2, 1) := by decide +kernel
theorem d_Me_hasRoom_7 : decode b_Me_hasRoom 7 = .ok (.isub, 1) := by decide +kernel
theorem d_Me_hasRoom_8 : decode b_Me_hasRoom 8 = .ok (.if_icmp .gt 7, 3) := by decide +kernel
theorem d_Me_hasRoom_11 : decode b_Me_hasRoom 11 = .ok (.iconst 1, 1) := by decide +kernel
theorem d_Me_hasRoom_12 : decode b_Me_hasRoom 12 = .ok (.goto 4, 3) := by decide +kernel
theorem d_Me_hasRoom_16 : decode b_Me_hasRoom 16 = .ok (.ireturn, 1) := by decide +kernel
theorem d_Po_lastsForWrite_0 : decode b_Po_lastsForWrite 0 = .ok (.aload_n 0, 1) := by decide +kernel
theorem d_Po_lastsForWrite_1 : decode b_Po_lastsForWrite 1 = .ok (.dup, 1) := by decide +kernel
theorem d_Po_lastsForWrite_2 : decode b_Po_lastsForWrite 2 = .ok (.getfield 19, 3) := by decide +kernel
theorem d_Po_lastsForWrite_5 : decode b_Po_lastsForWrite 5 = .ok (.iconst 1, 1) := by decide +kernel
theorem d_Po_lastsForWrite_6 : decode b_Po_lastsForWrite 6 = .ok (.iadd, 1) := by decide +kernel
theorem d_Po_lastsForWrite_7 : decode b_Po_lastsForWrite 7 = .ok (.putfield 19, 3) := by decide +kernel
theorem d_Po_lastsForWrite_10 : decode b_Po_lastsForWrite 10 = .ok (.aload_n 0, 1) := by decide +kernel
theorem d_Po_lastsForWrite_11 : decode b_Po_lastsForWrite 11 = .ok (.getfield 9, 3) := by decide +kernel
theorem d_Po_lastsForWrite_14 : decode b_Po_lastsForWrite 14 = .ok (.ifCond .ne 11, 3) := by decide +kernel
theorem d_Po_lastsForWrite_25 : decode b_Po_lastsForWrite 25 = .ok (.aload_n 0, 1) := by decide +kernel
theorem d_Po_lastsForWrite_26 : decode b_Po_lastsForWrite 26 = .ok (.getfield 9, 3) := by decide +kernel
theorem d_Po_lastsForWrite_29 : decode b_Po_lastsForWrite 29 = .ok (.ifCond .le 13, 3) := by decide +kernel
theorem d_Po_lastsForWrite_42 : decode b_Po_lastsForWrite 42 = .ok (.aload_n 0, 1) := by decide +kernel
theorem d_Po_lastsForWrite_43 : decode b_Po_lastsForWrite 43 = .ok (.getfield 15, 3) := by decide +kernel
theorem d_Po_lastsForWrite_46 : decode b_Po_lastsForWrite 46 = .ok (.ifCond .ne 7, 3) := by decide +kernel
theorem d_Po_lastsForWrite_49 : decode b_Po_lastsForWrite 49 = .ok (.iconst 1, 1) := by decide +kernel
theorem d_Po_lastsForWrite_50 : decode b_Po_lastsForWrite 50 = .ok (.goto 4, 3) := by decide +kernel
theorem d_Po_lastsForWrite_54 : decode b_Po_lastsForWrite 54 = .ok (.ireturn, 1) := by decide +kernel
theorem d_Se_take_0 : decode b_Se_take 0 = .ok (.aload_n 0, 1) := by decide +kernel
theorem d_Se_take_1 : decode b_Se_take 1 = .ok (.getfield 19, 3) := by decide +kernel
theorem d_Se_take_4 : decode b_Se_take 4 = .ok (.ifnonnull 12, 3) := by decide +kernel
theorem d_Se_take_7 : decode b_Se_take 7 = .ok (.aload_n 0, 1) := by decide +kernel
theorem d_Se_take_8 : decode b_Se_take 8 = .ok (.sipush 2048, 3) := by decide +kernel
theorem d_Se_take_11 : decode b_Se_take 11 = .ok (.newarray .byte, 2) := by decide +kernel
theorem d_Se_take_13 : decode b_Se_take 13 = .ok (.putfield 19, 3) := by decide +kernel
theorem d_Se_take_16 : decode b_Se_take 16 = .ok (.aload_n 1, 1) := by decide +kernel
theorem d_Se_take_17 : decode b_Se_take 17 = .ok (.iconst 0, 1) := by decide +kernel
theorem d_Se_take_18 : decode b_Se_take 18 = .ok (.aload_n 0, 1) := by decide +kernel
theorem d_Se_take_19 : decode b_Se_take 19 = .ok (.getfield 19, 3) := by decide +kernel
theorem d_Se_take_22 : decode b_Se_take 22 = .ok (.iconst 0, 1) := by decide +kernel
theorem d_Se_take_23 : decode b_Se_take 23 = .ok (.aload_n 1, 1) := by decide +kernel
theorem d_Se_take_24 : decode b_Se_take 24 = .ok (.arraylength, 1) := by decide +kernel
theorem d_Se_take_25 : decode b_Se_take 25 = .ok (.aload_n 0, 1) := by decide +kernel
theorem d_Se_take_26 : decode b_Se_take 26 = .ok (.getfield 19, 3) := by decide +kernel
theorem d_Se_take_29 : decode b_Se_take 29 = .ok (.arraylength, 1) := by decide +kernel
theorem d_Se_take_30 : decode b_Se_take 30 = .ok (.invokestatic 23, 3) := by decide +kernel
theorem d_Se_take_33 : decode b_Se_take 33 = .ok (.invokestatic 29, 3) := by decide +kernel
theorem d_Se_take_36 : decode b_Se_take 36 = .ok (.aload_n 0, 1) := by decide +kernel
theorem d_Se_take_37 : decode b_Se_take 37 = .ok (.iconst 1, 1) := by decide +kernel
theorem d_Se_take_38 : decode b_Se_take 38 = .ok (.putfield 9, 3) := by decide +kernel
theorem d_Se_take_41 : decode b_Se_take 41 = .ok (.return_, 1) := by decide +kernel
theorem d_Me_write_0 : decode b_Me_write 0 = .ok (.aload_n 0, 1) := by decide +kernel
theorem d_Me_write_1 : decode b_Me_write 1 = .ok (.iload_n 1, 1) := by decide +kernel
theorem d_Me_write_2 : decode b_Me_write 2 = .ok (.invokevirtual 28, 3) := by decide +kernel
theorem d_Me_write_5 : decode b_Me_write 5 = .ok (.ifCond .ne 5, 3) := by decide +kernel
theorem d_Me_write_10 : decode b_Me_write 10 = .ok (.aload_n 0, 1) := by decide +kernel
theorem d_Me_write_11 : decode b_Me_write 11 = .ok (.getfield 17, 3) := by decide +kernel
theorem d_Me_write_14 : decode b_Me_write 14 = .ok (.iload_n 1, 1) := by decide +kernel
theorem d_Me_write_15 : decode b_Me_write 15 = .ok (.aaload, 1) := by decide +kernel
theorem d_Me_write_16 : decode b_Me_write 16 = .ok (.astore 4, 2) := by decide +kernel
theorem d_Me_write_18 : decode b_Me_write 18 = .ok (.aload_n 3, 1) := by decide +kernel
theorem d_Me_write_19 : decode b_Me_write 19 = .ok (.invokevirtual 36, 3) := by decide +kernel
theorem d_Me_write_22 : decode b_Me_write 22 = .ok (.istore 5, 2) := by decide +kernel
theorem d_Me_write_24 : decode b_Me_write 24 = .ok (.aload_n 0, 1) := by decide +kernel
theorem d_Me_write_25 : decode b_Me_write 25 = .ok (.aload_n 0, 1) := by decide +kernel
theorem d_Me_write_26 : decode b_Me_write 26 = .ok (.getfield 9, 3) := by decide +kernel
theorem d_Me_write_29 : decode b_Me_write 29 = .ok (.iload_n 1, 1) := by decide +kernel
theorem d_Me_write_30 : decode b_Me_write 30 = .ok (.iconst 1, 1) := by decide +kernel
theorem d_Me_write_31 : decode b_Me_write 31 = .ok (.iadd, 1) := by decide +kernel
theorem d_Me_write_32 : decode b_Me_write 32 = .ok (.invokestatic 42, 3) := by decide +kernel
theorem d_Me_write_35 : decode b_Me_write 35 = .ok (.putfield 9, 3) := by decide +kernel
theorem d_Me_write_38 : decode b_Me_write 38 = .ok (.iload 5, 2) := by decide +kernel
theorem d_Me_write_40 : decode b_Me_write 40 = .ok (.ifCond .eq 20, 3) := by decide +kernel
theorem d_Me_write_43 : decode b_Me_write 43 = .ok (.aload 4, 2) := by decide +kernel
theorem d_Me_write_45 : decode b_Me_write 45 = .ok (.getfield 32, 3) := by decide +kernel
theorem d_Me_write_48 : decode b_Me_write 48 = .ok (.ifCond .ne 12, 3) := by decide +kernel
theorem d_Me_write_51 : decode b_Me_write 51 = .ok (.aload 4, 2) := by decide +kernel
theorem d_Me_write_53 : decode b_Me_write 53 = .ok (.aload_n 2, 1) := by decide +kernel
theorem d_Me_write_54 : decode b_Me_write 54 = .ok (.invokevirtual 48, 3) := by decide +kernel
theorem d_Me_write_57 : decode b_Me_write 57 = .ok (.goto 9, 3) := by decide +kernel
theorem d_Me_write_66 : decode b_Me_write 66 = .ok (.iload 5, 2) := by decide +kernel
theorem d_Me_write_68 : decode b_Me_write 68 = .ok (.ifCond .eq 11, 3) := by decide +kernel
theorem d_Me_write_71 : decode b_Me_write 71 = .ok (.aload 4, 2) := by decide +kernel
theorem d_Me_write_73 : decode b_Me_write 73 = .ok (.getfield 25, 3) := by decide +kernel
theorem d_Me_write_76 : decode b_Me_write 76 = .ok (.goto 5, 3) := by decide +kernel
theorem d_Me_write_81 : decode b_Me_write 81 = .ok (.ireturn, 1) := by decide +kernel
set_option maxHeartbeats 4000000 in
set_option maxRecDepth 100000 in
theorem c_Medium_has (l : Launch) (D : va_G) (t : Nat → ClassId) (G : Heap) (ak av : Nat → Nat) (h : hM) (md sa n : Nat) (fa : Nat → Option Nat) (x sx : Int32) (f_md : h md = some (.inr (0, [.ref sa, .int x]))) (f_sa : h sa = some (.inl ((t 5), n, .inr (.inr (.inr (.inr fa)))))) (hn : n < 2 ^ 31) : Met l y_Me_has (.code y_Me_has b_Me_has 2 (some .boolean) :: lw_g) { frames := 0, cells := 0, slots := 0, locals := 0 } (hP (kE D t G ak av) D vwCl G h [.ref md, .int sx]) (hQi D vwCl G (fun r h' => ((r = 1 ∧ ∃ j, j < n ∧ sx = nI j) ∨ (r = 0 ∧ (sx < 0 ∨ nI n ≤ sx))) ∧ h = h')) 0 0 (fun q => G.size ≤ q) := by
  refine Met.ofW (cc := b_Me_has) (maxL := 2) (ret := (some .boolean)) (by decide) rfl ?_
  intro p e s m args below meth c s₁ Bd hml hv
  obtain ⟨ha, hE, hH⟩ := hv
  have hx := Bd.exec
  have hb := Bd.bytes
  have hr := Bd.returns
  have hts : ∀ w ∈ lw_g, w.before args s = true := fun w hw => atoms_spec (ws := (.code y_Me_has b_Me_has 2 (some .boolean) :: lw_g)) Bd.pre w (List.mem_cons_of_mem _ hw)
  have hown : s.vm.findClass R_Me = some m.cls := findClass_of_methodNamed Bd.named
  have hlocks := Bd.notSynchronized
  have hK := hE.1
  have hH0 := hH
  have hLo : hLc G.size [] := hLc_nil
  have hz : s.heap.size ≤ s.heap.size := Nat.le_refl _
  have hkp : kp [] h h := kp_rf
  have hl := lv_entry [.ref md, .int sx] (n := 2) (Nat.le_of_ble_eq_true rfl)
  rw [show entryFrame m args 2 = F0 m 0 ((lg_sl [.ref md, .int sx] ++ List.replicate (2 - (lg_sl [.ref md, .int sx]).length) Slot.unset).toArray) [] from (by rw [ha]; exact lg_entry_eq m [.ref md, .int sx] 2)]
  generalize (lg_sl [.ref md, .int sx] ++ List.replicate (2 - (lg_sl [.ref md, .int sx]).length) Slot.unset).toArray = ls at hl ⊢
  have hl : lv_has ls 2 [(0, .ref md), (1, .int sx)] := hl
  refine lv_iload_n hx hb d_Me_has_0 rfl (lv_at hl 1 rfl) ?_
  refine lv_if_lt (tgt := 17) hx hb d_Me_has_1 (by decide) (fun hc1 => ?_) (fun hc1 => ?_)
  · skip
    refine lv_iconst (v := 0) hx hb d_Me_has_17 (by decide) ?_
    exact W.zret (v := 0) hx hb hr (by decide) (fun t9 ht hW => ⟨0, h, rfl, ⟨Or.inr ⟨rfl, Or.inl hc1⟩, rfl⟩, by rw [ht]; exact hH, by rw [ht]; exact hz⟩) hLo d_Me_has_18
  · skip
    refine lv_iload_n hx hb d_Me_has_4 rfl (lv_at hl 1 rfl) ?_
    refine lv_aload_n hx hb d_Me_has_5 rfl (lv_at hl 0 rfl) ?_
    refine hm_get (ci := 0) (v := .ref sa) (C := R_Me) (T := F_Me) (N := 2) hx hb hts ig_Me hown hK hH f_md rfl 0 (by decide) (hts _ mw_28) (fun _ h9 => h9) rfl d_Me_has_6 ?_
    refine hm_alen (v := nI n) hx hb hK hH 5 f_sa (ty := (.object "WriteOnceDisc$Sector")) rfl rfl d_Me_has_9 ?_
    refine lv_icmp_ge (tgt := 17) hx hb d_Me_has_10 (by decide) (fun hc2 => ?_) (fun hc2 => ?_)
    · skip
      refine lv_iconst (v := 0) hx hb d_Me_has_17 (by decide) ?_
      exact W.zret (v := 0) hx hb hr (by decide) (fun t9 ht hW => ⟨0, h, rfl, ⟨Or.inr ⟨rfl, Or.inr hc2⟩, rfl⟩, by rw [ht]; exact hH, by rw [ht]; exact hz⟩) hLo d_Me_has_18
    · skip
      obtain ⟨j, hj, hat, -⟩ := pk_mu hc1 hc2 hn
      refine lv_iconst (v := 1) hx hb d_Me_has_13 (by decide) ?_
      refine lv_goto (tgt := 18) hx hb d_Me_has_14 (by decide) ?_
      exact W.zret (v := 1) hx hb hr (by decide) (fun t9 ht hW => ⟨1, h, rfl, ⟨Or.inl ⟨rfl, j, hj, hat⟩, rfl⟩, by rw [ht]; exact hH, by rw [ht]; exact hz⟩) hLo d_Me_has_18

set_option maxHeartbeats 4000000 in
set_option maxRecDepth 100000 in
theorem c_Medium_hasYes (l : Launch) (D : va_G) (t : Nat → ClassId) (G : Heap) (ak av : Nat → Nat) (h : hM) (md sa n j : Nat) (fa : Nat → Option Nat) (x : Int32) (f_md : h md = some (.inr (0, [.ref sa, .int x]))) (f_sa : h sa = some (.inl ((t 5), n, .inr (.inr (.inr (.inr fa)))))) (hn : n < 2 ^ 31) (hj : j < n) : Met l y_Me_has (.code y_Me_has b_Me_has 2 (some .boolean) :: lw_g) { frames := 0, cells := 0, slots := 0, locals := 0 } (hP (kE D t G ak av) D vwCl G h [.ref md, .int (nI j)]) (hQi D vwCl G (fun r h' => r = 1 ∧ h = h')) 0 0 (fun q => G.size ≤ q) := by
  refine Met.ofW (cc := b_Me_has) (maxL := 2) (ret := (some .boolean)) (by decide) rfl ?_
  intro p e s m args below meth c s₁ Bd hml hv
  obtain ⟨ha, hE, hH⟩ := hv
  have hx := Bd.exec
  have hb := Bd.bytes
  have hr := Bd.returns
  have hts : ∀ w ∈ lw_g, w.before args s = true := fun w hw => atoms_spec (ws := (.code y_Me_has b_Me_has 2 (some .boolean) :: lw_g)) Bd.pre w (List.mem_cons_of_mem _ hw)
  have hown : s.vm.findClass R_Me = some m.cls := findClass_of_methodNamed Bd.named
  have hlocks := Bd.notSynchronized
  have hK := hE.1
  have hH0 := hH
  have hLo : hLc G.size [] := hLc_nil
  have hz : s.heap.size ≤ s.heap.size := Nat.le_refl _
  have hkp : kp [] h h := kp_rf
  have hl := lv_entry [.ref md, .int (nI j)] (n := 2) (Nat.le_of_ble_eq_true rfl)
  rw [show entryFrame m args 2 = F0 m 0 ((lg_sl [.ref md, .int (nI j)] ++ List.replicate (2 - (lg_sl [.ref md, .int (nI j)]).length) Slot.unset).toArray) [] from (by rw [ha]; exact lg_entry_eq m [.ref md, .int (nI j)] 2)]
  generalize (lg_sl [.ref md, .int (nI j)] ++ List.replicate (2 - (lg_sl [.ref md, .int (nI j)]).length) Slot.unset).toArray = ls at hl ⊢
  have hl : lv_has ls 2 [(0, .ref md), (1, .int (nI j))] := hl
  refine lv_iload_n hx hb d_Me_has_0 rfl (lv_at hl 1 rfl) ?_
  refine lv_if_lt (tgt := 17) hx hb d_Me_has_1 (by decide) (fun hc1 => absurd hc1 (nI_pos (Nat.lt_trans hj hn))) (fun hc1 => ?_)
  refine lv_iload_n hx hb d_Me_has_4 rfl (lv_at hl 1 rfl) ?_
  refine lv_aload_n hx hb d_Me_has_5 rfl (lv_at hl 0 rfl) ?_
  refine hm_get (ci := 0) (v := .ref sa) (C := R_Me) (T := F_Me) (N := 2) hx hb hts ig_Me hown hK hH f_md rfl 0 (by decide) (hts _ mw_28) (fun _ h9 => h9) rfl d_Me_has_6 ?_
  refine hm_alen (v := nI n) hx hb hK hH 5 f_sa (ty := (.object "WriteOnceDisc$Sector")) rfl rfl d_Me_has_9 ?_
  refine lv_icmp_ge (tgt := 17) hx hb d_Me_has_10 (by decide) (fun hc2 => absurd hc2 (nI_ge hj hn)) (fun hc2 => ?_)
  refine lv_iconst (v := 1) hx hb d_Me_has_13 (by decide) ?_
  refine lv_goto (tgt := 18) hx hb d_Me_has_14 (by decide) ?_
  exact W.zret (v := 1) hx hb hr (by decide) (fun t9 ht hW => ⟨1, h, rfl, ⟨rfl, rfl⟩, by rw [ht]; exact hH, by rw [ht]; exact hz⟩) hLo d_Me_has_18

set_option maxHeartbeats 4000000 in
set_option maxRecDepth 100000 in
theorem c_Medium_hasRoom (l : Launch) (D : va_G) (t : Nat → ClassId) (G : Heap) (ak av : Nat → Nat) (h : hM) (md sa n : Nat) (fa : Nat → Option Nat) (x fm ct : Int32) (f_md : h md = some (.inr (0, [.ref sa, .int x]))) (f_sa : h sa = some (.inl ((t 5), n, .inr (.inr (.inr (.inr fa)))))) (hle : fm ≤ nI n - ct) : Met l y_Me_hasRoom (.code y_Me_hasRoom b_Me_hasRoom 3 (some .boolean) :: lw_g) { frames := 0, cells := 0, slots := 0, locals := 0 } (hP (kE D t G ak av) D vwCl G h [.ref md, .int fm, .int ct]) (hQi D vwCl G (fun r h' => r = 1 ∧ h = h')) 0 0 (fun q => G.size ≤ q) := by
  refine Met.ofW (cc := b_Me_hasRoom) (maxL := 3) (ret := (some .boolean)) (by decide) rfl ?_
  intro p e s m args below meth c s₁ Bd hml hv
  obtain ⟨ha, hE, hH⟩ := hv
  have hx := Bd.exec
  have hb := Bd.bytes
  have hr := Bd.returns
  have hts : ∀ w ∈ lw_g, w.before args s = true := fun w hw => atoms_spec (ws := (.code y_Me_hasRoom b_Me_hasRoom 3 (some .boolean) :: lw_g)) Bd.pre w (List.mem_cons_of_mem _ hw)
  have hown : s.vm.findClass R_Me = some m.cls := findClass_of_methodNamed Bd.named
  have hlocks := Bd.notSynchronized
  have hK := hE.1
  have hH0 := hH
  have hLo : hLc G.size [] := hLc_nil
  have hz : s.heap.size ≤ s.heap.size := Nat.le_refl _
  have hkp : kp [] h h := kp_rf
  have hl := lv_entry [.ref md, .int fm, .int ct] (n := 3) (Nat.le_of_ble_eq_true rfl)
  rw [show entryFrame m args 3 = F0 m 0 ((lg_sl [.ref md, .int fm, .int ct] ++ List.replicate (3 - (lg_sl [.ref md, .int fm, .int ct]).length) Slot.unset).toArray) [] from (by rw [ha]; exact lg_entry_eq m [.ref md, .int fm, .int ct] 3)]
  generalize (lg_sl [.ref md, .int fm, .int ct] ++ List.replicate (3 - (lg_sl [.ref md, .int fm, .int ct]).length) Slot.unset).toArray = ls at hl ⊢
  have hl : lv_has ls 3 [(0, .ref md), (1, .int fm), (2, .int ct)] := hl
  refine lv_iload_n hx hb d_Me_hasRoom_0 rfl (lv_at hl 1 rfl) ?_
  refine lv_aload_n hx hb d_Me_hasRoom_1 rfl (lv_at hl 0 rfl) ?_
  refine hm_get (ci := 0) (v := .ref sa) (C := R_Me) (T := F_Me) (N := 2) hx hb hts ig_Me hown hK hH f_md rfl 0 (by decide) (hts _ mw_28) (fun _ h9 => h9) rfl d_Me_hasRoom_2 ?_
  refine hm_alen (v := nI n) hx hb hK hH 5 f_sa (ty := (.object "WriteOnceDisc$Sector")) rfl rfl d_Me_hasRoom_5 ?_
  refine lv_iload_n hx hb d_Me_hasRoom_6 rfl (lv_at hl 2 rfl) ?_
  refine lv_isub hx hb d_Me_hasRoom_7 ?_
  refine lv_icmp_gt (tgt := 15) hx hb d_Me_hasRoom_8 (by decide) (fun hc1 => absurd hc1 (Int32.not_lt.mpr hle)) (fun hc1 => ?_)
  refine lv_iconst (v := 1) hx hb d_Me_hasRoom_11 (by decide) ?_
  refine lv_goto (tgt := 16) hx hb d_Me_hasRoom_12 (by decide) ?_
  exact W.zret (v := 1) hx hb hr (by decide) (fun t9 ht hW => ⟨1, h, rfl, ⟨rfl, rfl⟩, by rw [ht]; exact hH, by rw [ht]; exact hz⟩) hLo d_Me_hasRoom_16

set_option maxHeartbeats 4000000 in
set_option maxRecDepth 100000 in
theorem c_Power_lasts (l : Launch) (D : va_G) (t : Nat → ClassId) (G : Heap) (ak av : Nat → Nat) (h : hM) (su : Nat) (sp : Int32) (f_su : h su = some (.inr (4, [.int (-1), .int 0, .int sp]))) : Met l y_Po_lastsForWrite (.code y_Po_lastsForWrite b_Po_lastsForWrite 1 (some .boolean) :: lw_g) { frames := 0, cells := 0, slots := 0, locals := 0 } (hP (kE D t G ak av) D vwCl G h [.ref su]) (hQi D vwCl G (fun r h' => r = 1 ∧ kp [su] h h' ∧ h' su = some (.inr (4, [.int (-1), .int 0, .int (sp + 1)])))) 0 0 (fun q => G.size ≤ q) := by
  refine Met.ofW (cc := b_Po_lastsForWrite) (maxL := 1) (ret := (some .boolean)) (by decide) rfl ?_
  intro p e s m args below meth c s₁ Bd hml hv
  obtain ⟨ha, hE, hH⟩ := hv
  have hx := Bd.exec
  have hb := Bd.bytes
  have hr := Bd.returns
  have hts : ∀ w ∈ lw_g, w.before args s = true := fun w hw => atoms_spec (ws := (.code y_Po_lastsForWrite b_Po_lastsForWrite 1 (some .boolean) :: lw_g)) Bd.pre w (List.mem_cons_of_mem _ hw)
  have hown : s.vm.findClass R_Po = some m.cls := findClass_of_methodNamed Bd.named
  have hlocks := Bd.notSynchronized
  have hK := hE.1
  have hH0 := hH
  have hLo : hLc G.size [] := hLc_nil
  have hz : s.heap.size ≤ s.heap.size := Nat.le_refl _
  have hkp : kp [su] h h := kp_rf
  have hl := lv_entry [.ref su] (n := 1) (Nat.le_of_ble_eq_true rfl)
  rw [show entryFrame m args 1 = F0 m 0 ((lg_sl [.ref su] ++ List.replicate (1 - (lg_sl [.ref su]).length) Slot.unset).toArray) [] from (by rw [ha]; exact lg_entry_eq m [.ref su] 1)]
  generalize (lg_sl [.ref su] ++ List.replicate (1 - (lg_sl [.ref su]).length) Slot.unset).toArray = ls at hl ⊢
  have hl : lv_has ls 1 [(0, .ref su)] := hl
  refine lv_aload_n hx hb d_Po_lastsForWrite_0 rfl (lv_at hl 0 rfl) ?_
  refine lv_dup hx hb d_Po_lastsForWrite_1 rfl ?_
  refine hm_get (ci := 4) (v := .int sp) (C := R_Po) (T := F_Po) (N := 3) hx hb hts ig_Po hown hK hH f_su rfl 2 (by decide) (hts _ mw_5) (fun _ h9 => h9) rfl d_Po_lastsForWrite_2 ?_
  refine lv_iconst (v := 1) hx hb d_Po_lastsForWrite_5 (by decide) ?_
  refine lv_iadd hx hb d_Po_lastsForWrite_6 ?_
  refine hm_put (ci := 4) (v := .int (sp + 1)) (ty := .int) (C := R_Po) (T := F_Po) (N := 3) hx hb hts ig_Po t_Po tk_Po nm_Po hown hK hH hLo f_su rfl 2 (by decide) (hts _ mw_5) (fun _ h9 => h9) rfl (by decide +kernel) rfl rfl (Nat.le_of_ble_eq_true rfl) d_Po_lastsForWrite_7 (fun H1 locs hH z2 hLo => ?_)
  have hz : s.heap.size ≤ H1.size := by rw [z2]; exact hz
  obtain ⟨h3, e4⟩ : ∃ z, z = hu h su (.inr (4, [.int (-1), .int 0, .int (sp + 1)])) := ⟨_, rfl⟩
  have hH : hm D vwCl G h3 H1 := by rw [e4]; exact hH
  have f_su : h3 su = some (.inr (4, [.int (-1), .int 0, .int (sp + 1)])) := by rw [e4]; exact hu_s _ _ _
  have hkp : kp [su] h h3 := by rw [e4]; exact kp_put hkp (by simp)
  refine lv_aload_n hx hb d_Po_lastsForWrite_10 rfl (lv_at hl 0 rfl) ?_
  refine hm_get (ci := 4) (v := .int (-1)) (C := R_Po) (T := F_Po) (N := 3) hx hb hts ig_Po hown hK hH f_su rfl 0 (by decide) (hts _ mw_3) (fun _ h9 => h9) rfl d_Po_lastsForWrite_11 ?_
  refine lv_if_ne (tgt := 25) hx hb d_Po_lastsForWrite_14 (by decide) (fun hc5 => ?_) (fun hc5 => absurd hc5 (by decide))
  refine lv_aload_n hx hb d_Po_lastsForWrite_25 rfl (lv_at hl 0 rfl) ?_
  refine hm_get (ci := 4) (v := .int (-1)) (C := R_Po) (T := F_Po) (N := 3) hx hb hts ig_Po hown hK hH f_su rfl 0 (by decide) (hts _ mw_3) (fun _ h9 => h9) rfl d_Po_lastsForWrite_26 ?_
  refine lv_if_le (tgt := 42) hx hb d_Po_lastsForWrite_29 (by decide) (fun hc6 => ?_) (fun hc6 => absurd (by decide) hc6)
  refine lv_aload_n hx hb d_Po_lastsForWrite_42 rfl (lv_at hl 0 rfl) ?_
  refine hm_get (ci := 4) (v := .int 0) (C := R_Po) (T := F_Po) (N := 3) hx hb hts ig_Po hown hK hH f_su rfl 1 (by decide) (hts _ mw_4) (fun _ h9 => h9) rfl d_Po_lastsForWrite_43 ?_
  refine lv_if_ne (tgt := 53) hx hb d_Po_lastsForWrite_46 (by decide) (fun hc7 => absurd rfl hc7) (fun hc7 => ?_)
  refine lv_iconst (v := 1) hx hb d_Po_lastsForWrite_49 (by decide) ?_
  refine lv_goto (tgt := 54) hx hb d_Po_lastsForWrite_50 (by decide) ?_
  exact W.zret (v := 1) hx hb hr (by decide) (fun t9 ht hW => ⟨1, h3, rfl, ⟨rfl, hkp, f_su⟩, by rw [ht]; exact hH, by rw [ht]; exact hz⟩) hLo d_Po_lastsForWrite_54

set_option maxHeartbeats 4000000 in
set_option maxRecDepth 100000 in
theorem c_Sector_take (l : Launch) (D : va_G) (t : Nat → ClassId) (G : Heap) (ak av : Nat → Nat) (h : hM) (sc pb : Nat) (cd df : Int32) (f_sc : h sc = some (.inr (6, [.int cd, .int df, .null]))) (hpb : pgF t h pb 2048) : Met l y_Se_take (.code y_Se_take b_Se_take 2 none :: lw_g) { frames := 1, cells := 1, slots := 2048, locals := 80 } (hP (kE D t G ak av) D vwCl G h [.ref sc, .ref pb]) (hQv D vwCl G (fun h' => kp [sc] h h' ∧ ∃ (nb : Nat) (f' : Nat → Int32), h' sc = some (.inr (6, [.int 1, .int df, .ref nb])) ∧ h' nb = some (.inl (t 0, 2048, .inl f')))) 1 2048 (fun q => G.size ≤ q) := by
  refine Met.ofW (cc := b_Se_take) (maxL := 2) (ret := none) (by decide) rfl ?_
  intro p e s m args below meth c s₁ Bd hml hv
  obtain ⟨ha, hE, hH⟩ := hv
  have hx := Bd.exec
  have hb := Bd.bytes
  have hr := Bd.returns
  have hts : ∀ w ∈ lw_g, w.before args s = true := fun w hw => atoms_spec (ws := (.code y_Se_take b_Se_take 2 none :: lw_g)) Bd.pre w (List.mem_cons_of_mem _ hw)
  have hown : s.vm.findClass R_Se = some m.cls := findClass_of_methodNamed Bd.named
  have hlocks := Bd.notSynchronized
  have hK := hE.1
  have hH0 := hH
  have hLo : hLc G.size [] := hLc_nil
  have hz : s.heap.size ≤ s.heap.size := Nat.le_refl _
  have hkp : kp [sc] h h := kp_rf
  have hl := lv_entry [.ref sc, .ref pb] (n := 2) (Nat.le_of_ble_eq_true rfl)
  rw [show entryFrame m args 2 = F0 m 0 ((lg_sl [.ref sc, .ref pb] ++ List.replicate (2 - (lg_sl [.ref sc, .ref pb]).length) Slot.unset).toArray) [] from (by rw [ha]; exact lg_entry_eq m [.ref sc, .ref pb] 2)]
  generalize (lg_sl [.ref sc, .ref pb] ++ List.replicate (2 - (lg_sl [.ref sc, .ref pb]).length) Slot.unset).toArray = ls at hl ⊢
  have hl : lv_has ls 2 [(0, .ref sc), (1, .ref pb)] := hl
  obtain ⟨f, hfit, f_pb⟩ := hpb
  refine lv_aload_n hx hb d_Se_take_0 rfl (lv_at hl 0 rfl) ?_
  refine hm_get (ci := 6) (v := .null) (C := R_Se) (T := F_Se) (N := 3) hx hb hts ig_Se hown hK hH f_sc rfl 2 (by decide) (hts _ mw_9) (fun _ h9 => h9) rfl d_Se_take_1 ?_
  refine lv_ifnonnullN hx hb d_Se_take_4 ?_
  refine lv_aload_n hx hb d_Se_take_7 rfl (lv_at hl 0 rfl) ?_
  refine lv_sipush (v := 2048) hx hb d_Se_take_8 (by decide) ?_
  refine hm_newa (atype := .byte) (ty := .byte) (N' := 2048) (a0 := (2048, .inl (fun _ => 0))) hx hb (hts _ mw_23) rfl hK hH 0 (cA := (t 0)) rfl (hK.2 0 _ rfl).2 (fun _ => rfl) (by decide) (by decide) (by decide) (Nat.le_of_ble_eq_true rfl) (Nat.le_of_ble_eq_true rfl) d_Se_take_11 (fun q2 H1 hq3 hn4 hH z5 => ?_)
  have hz : s.heap.size ≤ H1.size := by rw [z5]; exact Nat.le_succ_of_le hz
  obtain ⟨h6, e7⟩ : ∃ z, z = hu h q2 (.inl ((t 0), 2048, .inl (fun _ => 0))) := ⟨_, rfl⟩
  have hH : hm D vwCl G h6 H1 := by rw [e7]; exact hH
  have nb_h_q2 : h q2 = none := kp_none hkp hn4 (nmc (Ne.symm (h_nf hn4 f_sc)) nm0)
  have hkp : kp [sc] h h6 := by rw [e7]; exact kp_new hkp hn4
  have ne_sc_q2 : sc ≠ q2 := h_nf hn4 f_sc
  have f_sc : h6 sc = some (.inr (6, [.int cd, .int df, .null])) := by rw [e7, hu_n ne_sc_q2]; exact f_sc
  have ne_pb_q2 : pb ≠ q2 := h_nf hn4 f_pb
  have f_pb : h6 pb = some (.inl ((t 0), 2048, .inl f)) := by rw [e7, hu_n ne_pb_q2]; exact f_pb
  have f_nb : h6 q2 = some (.inl ((t 0), 2048, .inl (fun _ => 0))) := by rw [e7]; exact hu_s _ _ _
  refine hm_put (ci := 6) (v := .ref q2) (ty := (.array .byte)) (C := R_Se) (T := F_Se) (N := 3) hx hb hts ig_Se t_Se tk_Se nm_Se hown hK hH hLo f_sc rfl 2 (by decide) (hts _ mw_9) (fun _ h9 => h9) rfl (by decide +kernel) rfl rfl (Nat.le_of_ble_eq_true rfl) d_Se_take_13 (fun H8 locs hH z9 hLo => ?_)
  have hz : s.heap.size ≤ H8.size := by rw [z9]; exact hz
  obtain ⟨h10, e11⟩ : ∃ z, z = hu h6 sc (.inr (6, [.int cd, .int df, .ref q2])) := ⟨_, rfl⟩
  have hH : hm D vwCl G h10 H8 := by rw [e11]; exact hH
  have f_pb : h10 pb = some (.inl ((t 0), 2048, .inl f)) := by rw [e11, hu_n (h_neA f_pb f_sc)]; exact f_pb
  have f_nb : h10 q2 = some (.inl ((t 0), 2048, .inl (fun _ => 0))) := by rw [e11, hu_n (Ne.symm ne_sc_q2)]; exact f_nb
  have f_sc : h10 sc = some (.inr (6, [.int cd, .int df, .ref q2])) := by rw [e11]; exact hu_s _ _ _
  have hkp : kp [sc] h h10 := by rw [e11]; exact kp_put hkp (by simp)
  refine lv_aload_n hx hb d_Se_take_16 rfl (lv_at hl 1 rfl) ?_
  refine lv_iconst (v := 0) hx hb d_Se_take_17 (by decide) ?_
  refine lv_aload_n hx hb d_Se_take_18 rfl (lv_at hl 0 rfl) ?_
  refine hm_get (ci := 6) (v := .ref q2) (C := R_Se) (T := F_Se) (N := 3) hx hb hts ig_Se hown hK hH f_sc rfl 2 (by decide) (hts _ mw_9) (fun _ h9 => h9) rfl d_Se_take_19 ?_
  refine lv_iconst (v := 0) hx hb d_Se_take_22 (by decide) ?_
  refine lv_aload_n hx hb d_Se_take_23 rfl (lv_at hl 1 rfl) ?_
  refine hm_alen (v := 2048) hx hb hK hH 0 f_pb (ty := .byte) rfl (show Int32.ofNat 2048 = 2048 by decide) d_Se_take_24 ?_
  refine lv_aload_n hx hb d_Se_take_25 rfl (lv_at hl 0 rfl) ?_
  refine hm_get (ci := 6) (v := .ref q2) (C := R_Se) (T := F_Se) (N := 3) hx hb hts ig_Se hown hK hH f_sc rfl 2 (by decide) (hts _ mw_9) (fun _ h9 => h9) rfl d_Se_take_26 ?_
  refine hm_alen (v := 2048) hx hb hK hH 0 f_nb (ty := .byte) rfl (show Int32.ofNat 2048 = 2048 by decide) d_Se_take_29 ?_
  refine va_mmin (x := 2048) (y := 2048) hx hb (hml.trans hl.1.symm) hown (hts _ mw_154) (hts _ mw_155) (hts _ mw_156) (hts _ mw_157) (Nat.le_of_ble_eq_true rfl) (Nat.le_of_ble_eq_true rfl) (Nat.le_of_ble_eq_true rfl) (Nat.le_of_ble_eq_true rfl) d_Se_take_30 ?_
  refine lv_topi (fun v12 e13 => ?_)
  obtain rfl : v12 = nI 2048 := e13.trans (by decide)
  refine hm_copyb hx hb (hml.trans hl.1.symm) hown (hts _ mw_158) (hts _ mw_159) (hts _ mw_160) (hts _ mw_161) hK hH hLo 0 f_pb f_nb rfl 2048 rfl (by decide) (by decide) (by decide) hfit (Nat.le_of_ble_eq_true rfl) (Nat.le_of_ble_eq_true rfl) d_Se_take_33 (fun H14 locs hH z15 hLo => ?_)
  have hz : s.heap.size ≤ H14.size := by rw [z15]; exact hz
  obtain ⟨h16, e17⟩ : ∃ z, z = hu h10 q2 (.inl ((t 0), 2048, .inl (va_cpy f (fun _ => 0) 0 0 2048))) := ⟨_, rfl⟩
  have hH : hm D vwCl G h16 H14 := by rw [e17]; exact hH
  have f_sc : h16 sc = some (.inr (6, [.int cd, .int df, .ref q2])) := by rw [e17, hu_n ne_sc_q2]; exact f_sc
  have f_pb : h16 pb = some (.inl ((t 0), 2048, .inl f)) := by rw [e17, hu_n ne_pb_q2]; exact f_pb
  have f_nb : h16 q2 = some (.inl ((t 0), 2048, .inl (va_cpy f (fun _ => 0) 0 0 2048))) := by rw [e17]; exact hu_s _ _ _
  have hkp : kp [sc] h h16 := by rw [e17]; exact kp_putN hkp nb_h_q2
  refine lv_aload_n hx hb d_Se_take_36 rfl (lv_at hl 0 rfl) ?_
  refine lv_iconst (v := 1) hx hb d_Se_take_37 (by decide) ?_
  refine hm_put (ci := 6) (v := .int 1) (ty := .int) (C := R_Se) (T := F_Se) (N := 3) hx hb hts ig_Se t_Se tk_Se nm_Se hown hK hH hLo f_sc rfl 0 (by decide) (hts _ mw_7) (fun _ h9 => h9) rfl (by decide +kernel) rfl rfl (Nat.le_of_ble_eq_true rfl) d_Se_take_38 (fun H18 locs hH z19 hLo => ?_)
  have hz : s.heap.size ≤ H18.size := by rw [z19]; exact hz
  obtain ⟨h20, e21⟩ : ∃ z, z = hu h16 sc (.inr (6, [.int 1, .int df, .ref q2])) := ⟨_, rfl⟩
  have hH : hm D vwCl G h20 H18 := by rw [e21]; exact hH
  have f_pb : h20 pb = some (.inl ((t 0), 2048, .inl f)) := by rw [e21, hu_n (h_neA f_pb f_sc)]; exact f_pb
  have f_nb : h20 q2 = some (.inl ((t 0), 2048, .inl (va_cpy f (fun _ => 0) 0 0 2048))) := by rw [e21, hu_n (Ne.symm ne_sc_q2)]; exact f_nb
  have f_sc : h20 sc = some (.inr (6, [.int 1, .int df, .ref q2])) := by rw [e21]; exact hu_s _ _ _
  have hkp : kp [sc] h h20 := by rw [e21]; exact kp_put hkp (by simp)
  exact W.vret hx hb hr (fun t9 ht hW => ⟨h20, rfl, ⟨hkp, q2, _, f_sc, f_nb⟩, by rw [ht]; exact hH, by rw [ht]; exact hz⟩) hLo d_Se_take_41

set_option maxHeartbeats 4000000 in
set_option maxRecDepth 100000 in
theorem c_Medium_write (l : Launch) (D : va_G) (t : Nat → ClassId) (G : Heap) (ak av : Nat → Nat) (h : hM) (md sa pb su n j fr : Nat) (fa : Nat → Option Nat) (sp : Int32) (f_md : h md = some (.inr (0, [.ref sa, .int (nI fr)]))) (f_sa : h sa = some (.inl ((t 5), n, .inr (.inr (.inr (.inr fa)))))) (f_su : h su = some (.inr (4, [.int (-1), .int 0, .int sp]))) (hpb : pgF t h pb 2048) (hrow : rowP (.inr (6, [.int 0, .int 0, .null])) fa j n h) (hj : j < n) (hfr : fr ≤ j) (hn : n < 2 ^ 31) : Met l y_Me_write (.code y_Me_write b_Me_write 6 (some .int) :: lw_g) { frames := 2, cells := 1, slots := 2048, locals := 101 } (hP (kE D t G ak av) D vwCl G h [.ref md, .int (nI j), .ref pb, .ref su]) (hQi D vwCl G (fun r h' => r = 1 ∧ rowP (.inr (6, [.int 0, .int 0, .null])) fa (j + 1) n h' ∧ kx (.inr (6, [.int 0, .int 0, .null])) [md, su] h h' ∧ h' md = some (.inr (0, [.ref sa, .int (nI (j + 1))])) ∧ h' su = some (.inr (4, [.int (-1), .int 0, .int (sp + 1)])))) 1 2048 (fun q => G.size ≤ q) := by
  refine Met.ofW (cc := b_Me_write) (maxL := 6) (ret := (some .int)) (by decide) rfl ?_
  intro p e s m args below meth c s₁ Bd hml hv
  obtain ⟨ha, hE, hH⟩ := hv
  have hx := Bd.exec
  have hb := Bd.bytes
  have hr := Bd.returns
  have hts : ∀ w ∈ lw_g, w.before args s = true := fun w hw => atoms_spec (ws := (.code y_Me_write b_Me_write 6 (some .int) :: lw_g)) Bd.pre w (List.mem_cons_of_mem _ hw)
  have hown : s.vm.findClass R_Me = some m.cls := findClass_of_methodNamed Bd.named
  have hlocks := Bd.notSynchronized
  have hK := hE.1
  have hH0 := hH
  have hLo : hLc G.size [] := hLc_nil
  have hz : s.heap.size ≤ s.heap.size := Nat.le_refl _
  have hl := lv_entry [.ref md, .int (nI j), .ref pb, .ref su] (n := 6) (Nat.le_of_ble_eq_true rfl)
  rw [show entryFrame m args 6 = F0 m 0 ((lg_sl [.ref md, .int (nI j), .ref pb, .ref su] ++ List.replicate (6 - (lg_sl [.ref md, .int (nI j), .ref pb, .ref su]).length) Slot.unset).toArray) [] from (by rw [ha]; exact lg_entry_eq m [.ref md, .int (nI j), .ref pb, .ref su] 6)]
  generalize (lg_sl [.ref md, .int (nI j), .ref pb, .ref su] ++ List.replicate (6 - (lg_sl [.ref md, .int (nI j), .ref pb, .ref su]).length) Slot.unset).toArray = ls at hl ⊢
  have hl : lv_has ls 6 [(0, .ref md), (1, .int (nI j)), (2, .ref pb), (3, .ref su)] := hl
  obtain ⟨f, hfit, f_pb⟩ := hpb
  obtain ⟨sc, hsc, f_sc⟩ := hrow.2 j (Nat.le_refl j) hj
  have f_sc0 := f_sc
  have hkp : kp [sc, md, su] h h := kp_rf
  have hrow0 := hrow
  have f_md0 := f_md
  have f_su0 := f_su
  refine lv_aload_n hx hb d_Me_write_0 rfl (lv_at hl 0 rfl) ?_
  refine lv_iload_n hx hb d_Me_write_1 rfl (lv_at hl 1 rfl) ?_
  refine hm_calli (va_runV (As := [.int (nI j)]) (b := md) (rest := []) ⟨hx, hb, hml, hown, hts⟩ (c_Medium_hasYes l D t G ak av h md sa n j fa (nI fr) f_md f_sa hn hj) ⟨cw9B 1 hts mw_162 mw_164 mw_163 rfl rfl (by decide +kernel) ⟨Nat.le_of_ble_eq_true rfl, Nat.le_of_ble_eq_true rfl⟩, hts _ mw_165, hts _ mw_166⟩ (hP_V (q := (R_Me, F_Me, 2)) kE_ok hE hK hH f_md rfl) rfl rfl hl.1 rfl (lv_room (Nat.le_of_ble_eq_true rfl)) d_Me_write_2 ⟨Nat.le_of_ble_eq_true rfl, Nat.le_of_ble_eq_true rfl⟩) hLo (fun r1 h2 H3 locs hp5 hH z4 hLo => ?_)
  have hz : s.heap.size ≤ H3.size := Nat.le_trans hz z4
  obtain ⟨rfl, rfl⟩ := hp5
  refine lv_if_ne (tgt := 10) hx hb d_Me_write_5 (by decide) (fun hc6 => ?_) (fun hc6 => absurd hc6 (by decide))
  refine lv_aload_n hx hb d_Me_write_10 rfl (lv_at hl 0 rfl) ?_
  refine hm_get (ci := 0) (v := .ref sa) (C := R_Me) (T := F_Me) (N := 2) hx hb hts ig_Me hown hK hH f_md rfl 0 (by decide) (hts _ mw_28) (fun _ h9 => h9) rfl d_Me_write_11 ?_
  refine lv_iload_n hx hb d_Me_write_14 rfl (lv_at hl 1 rfl) ?_
  refine hj_aald (v := .ref sc) hx hb hK hH 5 f_sa (C := R_Se) rfl j rfl hj hn (by rw [hsc]; rfl) d_Me_write_15 ?_
  refine lv_astore (lv' := [(4, .ref sc), (0, .ref md), (1, .int (nI j)), (2, .ref pb), (3, .ref su)]) hx hb d_Me_write_16 hl (by decide) rfl (fun ls hl => ?_)
  refine lv_aload_n hx hb d_Me_write_18 rfl (lv_at hl 4 rfl) ?_
  refine hm_calli (va_runV (As := []) (b := su) (rest := []) ⟨hx, hb, hml, hown, hts⟩ (c_Power_lasts l D t G ak av h su sp f_su) ⟨cw9B 0 hts mw_167 mw_168 mw_46 rfl rfl (by decide +kernel) ⟨Nat.le_of_ble_eq_true rfl, Nat.le_of_ble_eq_true rfl⟩, hts _ mw_169, hts _ mw_170⟩ (hP_V (q := (R_Po, F_Po, 3)) kE_ok hE hK hH f_su rfl) rfl rfl hl.1 rfl (lv_room (Nat.le_of_ble_eq_true rfl)) d_Me_write_19 ⟨Nat.le_of_ble_eq_true rfl, Nat.le_of_ble_eq_true rfl⟩) hLo (fun r7 h8 H9 locs hp11 hH z10 hLo => ?_)
  have hz : s.heap.size ≤ H9.size := Nat.le_trans hz z10
  obtain ⟨rfl, hk9, hq9⟩ := hp11
  have f_md : h8 md = some (.inr (0, [.ref sa, .int (nI fr)])) := kp_at hk9 f_md (nmc (h_neC f_md f_su (by decide)) nm0)
  have f_sa : h8 sa = some (.inl ((t 5), n, .inr (.inr (.inr (.inr fa))))) := kp_at hk9 f_sa (nmc (h_neA f_sa f_su) nm0)
  have f_pb : h8 pb = some (.inl ((t 0), 2048, .inl f)) := kp_at hk9 f_pb (nmc (h_neA f_pb f_su) nm0)
  have f_sc : h8 sc = some (.inr (6, [.int 0, .int 0, .null])) := kp_at hk9 f_sc (nmc (h_neC f_sc f_su (by decide)) nm0)
  have hkp : kp [sc, md, su] h h8 := kp_tr2 hkp hk9 (List.forall_mem_cons.mpr ⟨Or.inl (by simp), List.forall_mem_nil _⟩)
  have f_su : h8 su = some (.inr (4, [.int (-1), .int 0, .int (sp + 1)])) := hq9
  refine lv_istore (lv' := [(5, .int 1), (4, .ref sc), (0, .ref md), (1, .int (nI j)), (2, .ref pb), (3, .ref su)]) hx hb d_Me_write_22 hl (by decide) rfl (fun ls hl => ?_)
  refine lv_aload_n hx hb d_Me_write_24 rfl (lv_at hl 2 rfl) ?_
  refine lv_aload_n hx hb d_Me_write_25 rfl (lv_at hl 2 rfl) ?_
  refine hm_get (ci := 0) (v := .int (nI fr)) (C := R_Me) (T := F_Me) (N := 2) hx hb hts ig_Me hown hK hH f_md rfl 1 (by decide) (hts _ mw_26) (fun _ h9 => h9) rfl d_Me_write_26 ?_
  refine lv_iload_n hx hb d_Me_write_29 rfl (lv_at hl 3 rfl) ?_
  refine lv_iconst (v := 1) hx hb d_Me_write_30 (by decide) ?_
  refine lv_iadd hx hb d_Me_write_31 ?_
  refine va_mmax (x := nI fr) (y := (nI j) + 1) hx hb (hml.trans hl.1.symm) hown (hts _ mw_171) (hts _ mw_172) (hts _ mw_156) (hts _ mw_173) (Nat.le_of_ble_eq_true rfl) (Nat.le_of_ble_eq_true rfl) (Nat.le_of_ble_eq_true rfl) (Nat.le_of_ble_eq_true rfl) d_Me_write_32 ?_
  refine lv_topi (fun v12 e13 => ?_)
  obtain rfl : v12 = nI (j + 1) := e13.trans (by rw [nI_1 j, if_pos (nI_lt (by omega) (by omega))])
  refine hm_put (ci := 0) (v := .int (nI (j + 1))) (ty := .int) (C := R_Me) (T := F_Me) (N := 2) hx hb hts ig_Me t_Me tk_Me nm_Me hown hK hH hLo f_md rfl 1 (by decide) (hts _ mw_26) (fun _ h9 => h9) rfl (by decide +kernel) rfl rfl (Nat.le_of_ble_eq_true rfl) d_Me_write_35 (fun H14 locs hH z15 hLo => ?_)
  have hz : s.heap.size ≤ H14.size := by rw [z15]; exact hz
  obtain ⟨h16, e17⟩ : ∃ z, z = hu h8 md (.inr (0, [.ref sa, .int (nI (j + 1))])) := ⟨_, rfl⟩
  have hH : hm D vwCl G h16 H14 := by rw [e17]; exact hH
  have f_sa : h16 sa = some (.inl ((t 5), n, .inr (.inr (.inr (.inr fa))))) := by rw [e17, hu_n (h_neA f_sa f_md)]; exact f_sa
  have f_su : h16 su = some (.inr (4, [.int (-1), .int 0, .int (sp + 1)])) := by rw [e17, hu_n (h_neC f_su f_md (by decide))]; exact f_su
  have f_pb : h16 pb = some (.inl ((t 0), 2048, .inl f)) := by rw [e17, hu_n (h_neA f_pb f_md)]; exact f_pb
  have f_sc : h16 sc = some (.inr (6, [.int 0, .int 0, .null])) := by rw [e17, hu_n (h_neC f_sc f_md (by decide))]; exact f_sc
  have f_md : h16 md = some (.inr (0, [.ref sa, .int (nI (j + 1))])) := by rw [e17]; exact hu_s _ _ _
  have hkp : kp [sc, md, su] h h16 := by rw [e17]; exact kp_put hkp (by simp)
  refine lv_iload hx hb d_Me_write_38 (lv_at hl 0 rfl) ?_
  refine lv_if_eq (tgt := 60) hx hb d_Me_write_40 (by decide) (fun hc18 => absurd hc18 (by decide)) (fun hc18 => ?_)
  refine lv_aload hx hb d_Me_write_43 (lv_at hl 1 rfl) ?_
  refine hm_get (ci := 6) (v := .int 0) (C := R_Se) (T := F_Se) (N := 3) hx hb hts ig_Se hown hK hH f_sc rfl 1 (by decide) (hts _ mw_174) (fun _ h9 => h9) rfl d_Me_write_45 ?_
  refine lv_if_ne (tgt := 60) hx hb d_Me_write_48 (by decide) (fun hc19 => absurd rfl hc19) (fun hc19 => ?_)
  refine lv_aload hx hb d_Me_write_51 (lv_at hl 1 rfl) ?_
  refine lv_aload_n hx hb d_Me_write_53 rfl (lv_at hl 4 rfl) ?_
  refine hm_callv (va_runV (As := [.ref pb]) (b := sc) (rest := []) ⟨hx, hb, hml, hown, hts⟩ (c_Sector_take l D t G ak av h16 sc pb 0 0 f_sc ⟨f, hfit, f_pb⟩) ⟨cw9B 1 hts mw_175 mw_176 mw_30 rfl rfl (by decide +kernel) ⟨Nat.le_of_ble_eq_true rfl, Nat.le_of_ble_eq_true rfl⟩, hts _ mw_177, hts _ mw_178⟩ (hP_V (q := (R_Se, F_Se, 3)) kE_ok hE hK hH f_sc rfl) rfl rfl hl.1 rfl (lv_room (Nat.le_of_ble_eq_true rfl)) d_Me_write_54 ⟨Nat.le_of_ble_eq_true rfl, Nat.le_of_ble_eq_true rfl⟩) hLo (fun h20 H21 locs hp23 hH z22 hLo => ?_)
  have hz : s.heap.size ≤ H21.size := Nat.le_trans hz z22
  obtain ⟨hk9, nb, f9, hq9, hn9⟩ := hp23
  have f_md : h20 md = some (.inr (0, [.ref sa, .int (nI (j + 1))])) := kp_at hk9 f_md (nmc (h_neC f_md f_sc (by decide)) nm0)
  have f_sa : h20 sa = some (.inl ((t 5), n, .inr (.inr (.inr (.inr fa))))) := kp_at hk9 f_sa (nmc (h_neA f_sa f_sc) nm0)
  have f_su : h20 su = some (.inr (4, [.int (-1), .int 0, .int (sp + 1)])) := kp_at hk9 f_su (nmc (h_neC f_su f_sc (by decide)) nm0)
  have f_pb : h20 pb = some (.inl ((t 0), 2048, .inl f)) := kp_at hk9 f_pb (nmc (h_neA f_pb f_sc) nm0)
  have hkp : kp [sc, md, su] h h20 := kp_tr2 hkp hk9 (List.forall_mem_cons.mpr ⟨Or.inl (by simp), List.forall_mem_nil _⟩)
  have f_sc : h20 sc = some (.inr (6, [.int 1, .int 0, .ref nb])) := hq9
  refine lv_goto (tgt := 66) hx hb d_Me_write_57 (by decide) ?_
  refine lv_iload hx hb d_Me_write_66 (lv_at hl 0 rfl) ?_
  refine lv_if_eq (tgt := 79) hx hb d_Me_write_68 (by decide) (fun hc24 => absurd hc24 (by decide)) (fun hc24 => ?_)
  refine lv_aload hx hb d_Me_write_71 (lv_at hl 1 rfl) ?_
  refine hm_get (ci := 6) (v := .int 1) (C := R_Se) (T := F_Se) (N := 3) hx hb hts ig_Se hown hK hH f_sc rfl 0 (by decide) (hts _ mw_179) (fun _ h9 => h9) rfl d_Me_write_73 ?_
  refine lv_goto (tgt := 81) hx hb d_Me_write_76 (by decide) ?_
  exact W.iret (v := 1) hx hb hr (fun t9 ht hW => ⟨1, h20, rfl, ⟨rfl, rowP_next hrow0 hj hsc hkp (List.forall_mem_cons.mpr ⟨by rw [f_md0]; simp, List.forall_mem_cons.mpr ⟨by rw [f_su0]; simp, List.forall_mem_nil _⟩⟩), kx_of hkp f_sc0, f_md, f_su⟩, by rw [ht]; exact hH, by rw [ht]; exact hz⟩) hLo d_Me_write_81
end
section
set_option maxRecDepth 100000 in
theorem mw_180 : Cond.fieldLink R_Wr 27 "WriteOnceDisc$Nodes" "count" "I" ∈ lw_g := lw_gin (List.mem_append_right _ (List.mem_of_getElem? (i := 185) rfl)) (by decide +kernel)
set_option maxRecDepth 100000 in
theorem mw_181 : Cond.fieldLink R_Wr 115 "WriteOnceDisc$Nodes" "order" "[LWriteOnceDisc$Node;" ∈ lw_g := lw_gin (List.mem_append_right _ (List.mem_of_getElem? (i := 183) rfl)) (by decide +kernel)
set_option maxRecDepth 100000 in
theorem mw_182 : Cond.fieldLink R_Wr 118 "WriteOnceDisc$Node" "isDirectory" "Z" ∈ lw_g := lw_gin (List.mem_append_right _ (List.mem_of_getElem? (i := 102) rfl)) (by decide +kernel)
set_option maxRecDepth 100000 in
theorem mw_183 : Cond.fieldLink R_Wr 57 "WriteOnceDisc$Node" "sector" "I" ∈ lw_g := lw_gin (List.mem_append_right _ (List.mem_of_getElem? (i := 124) rfl)) (by decide +kernel)
set_option maxRecDepth 100000 in
theorem mw_184 : Cond.fieldLink R_Ns 54 "WriteOnceDisc$Node" "parent" "LWriteOnceDisc$Node;" ∈ lw_g := lw_gin (List.mem_append_right _ (List.mem_of_getElem? (i := 94) rfl)) (by decide +kernel)
set_option maxRecDepth 100000 in
theorem mw_185 : Cond.fieldLink R_Ns 58 "WriteOnceDisc$Node" "isDirectory" "Z" ∈ lw_g := lw_gin (List.mem_append_right _ (List.mem_of_getElem? (i := 100) rfl)) (by decide +kernel)
set_option maxRecDepth 100000 in
theorem mw_186 : Cond.code y_Ns_listChildren b_Ns_listChildren 6 (some .int) ∈ lw_g := lw_gin (List.mem_append_right _ (List.mem_of_getElem? (i := 459) rfl)) (by decide +kernel)
set_option maxRecDepth 100000 in
theorem mw_187 : Cond.initialized R_Ns ∈ lw_g := lw_gin (List.mem_append_right _ (List.mem_of_getElem? (i := 7) rfl)) (by decide +kernel)
set_option maxRecDepth 100000 in
theorem mw_188 : Cond.methodLink R_Ns 86 y_Ns_listChildren ∈ lw_g := lw_gin (List.mem_append_right _ (List.mem_of_getElem? (i := 456) rfl)) (by decide +kernel)
set_option maxRecDepth 100000 in
theorem mw_189 : Cond.instanceMethod y_Ns_listChildren ∈ lw_g := lw_gin (List.mem_append_right _ (List.mem_of_getElem? (i := 458) rfl)) (by decide +kernel)
set_option maxRecDepth 100000 in
theorem mw_190 : Cond.selects R_Ns y_Ns_listChildren y_Ns_listChildren ∈ lw_g := lw_gin (List.mem_append_left _ (List.mem_of_getElem? (i := 3) rfl)) (by decide +kernel)
theorem d_Wr_placeDirectories_0 : decode b_Wr_placeDirectories 0 = .ok (.iconst 0, 1) := by decide +kernel
theorem d_Wr_placeDirectories_1 : decode b_Wr_placeDirectories 1 = .ok (.istore_n 3, 1) := by decide +kernel
theorem d_Wr_placeDirectories_2 : decode b_Wr_placeDirectories 2 = .ok (.iconst 0, 1) := by decide +kernel
theorem d_Wr_placeDirectories_3 : decode b_Wr_placeDirectories 3 = .ok (.istore 4, 2) := by decide +kernel
theorem d_Wr_placeDirectories_5 : decode b_Wr_placeDirectories 5 = .ok (.iload 4, 2) := by decide +kernel
theorem d_Wr_placeDirectories_7 : decode b_Wr_placeDirectories 7 = .ok (.aload_n 1, 1) := by decide +kernel
theorem d_Wr_placeDirectories_8 : decode b_Wr_placeDirectories 8 = .ok (.getfield 27, 3) := by decide +kernel
theorem d_Wr_placeDirectories_11 : decode b_Wr_placeDirectories 11 = .ok (.if_icmp .ge 38, 3) := by decide +kernel
theorem d_Wr_placeDirectories_14 : decode b_Wr_placeDirectories 14 = .ok (.aload_n 1, 1) := by decide +kernel
theorem d_Wr_placeDirectories_15 : decode b_Wr_placeDirectories 15 = .ok (.getfield 115, 3) := by decide +kernel
theorem d_Wr_placeDirectories_18 : decode b_Wr_placeDirectories 18 = .ok (.iload 4, 2) := by decide +kernel
theorem d_Wr_placeDirectories_20 : decode b_Wr_placeDirectories 20 = .ok (.aaload, 1) := by decide +kernel
theorem d_Wr_placeDirectories_21 : decode b_Wr_placeDirectories 21 = .ok (.getfield 118, 3) := by decide +kernel
theorem d_Wr_placeDirectories_24 : decode b_Wr_placeDirectories 24 = .ok (.ifCond .eq 19, 3) := by decide +kernel
theorem d_Wr_placeDirectories_27 : decode b_Wr_placeDirectories 27 = .ok (.aload_n 1, 1) := by decide +kernel
theorem d_Wr_placeDirectories_28 : decode b_Wr_placeDirectories 28 = .ok (.getfield 115, 3) := by decide +kernel
theorem d_Wr_placeDirectories_31 : decode b_Wr_placeDirectories 31 = .ok (.iload 4, 2) := by decide +kernel
theorem d_Wr_placeDirectories_33 : decode b_Wr_placeDirectories 33 = .ok (.aaload, 1) := by decide +kernel
theorem d_Wr_placeDirectories_34 : decode b_Wr_placeDirectories 34 = .ok (.iload_n 2, 1) := by decide +kernel
theorem d_Wr_placeDirectories_35 : decode b_Wr_placeDirectories 35 = .ok (.iload_n 3, 1) := by decide +kernel
theorem d_Wr_placeDirectories_36 : decode b_Wr_placeDirectories 36 = .ok (.iadd, 1) := by decide +kernel
theorem d_Wr_placeDirectories_37 : decode b_Wr_placeDirectories 37 = .ok (.putfield 57, 3) := by decide +kernel
theorem d_Wr_placeDirectories_40 : decode b_Wr_placeDirectories 40 = .ok (.iinc 3 1, 3) := by decide +kernel
theorem d_Wr_placeDirectories_43 : decode b_Wr_placeDirectories 43 = .ok (.iinc 4 1, 3) := by decide +kernel
theorem d_Wr_placeDirectories_46 : decode b_Wr_placeDirectories 46 = .ok (.goto (-41), 3) := by decide +kernel
theorem d_Wr_placeDirectories_49 : decode b_Wr_placeDirectories 49 = .ok (.iload_n 3, 1) := by decide +kernel
theorem d_Wr_placeDirectories_50 : decode b_Wr_placeDirectories 50 = .ok (.ireturn, 1) := by decide +kernel
theorem d_Ns_listChildren_0 : decode b_Ns_listChildren 0 = .ok (.iload_n 2, 1) := by decide +kernel
theorem d_Ns_listChildren_1 : decode b_Ns_listChildren 1 = .ok (.istore_n 3, 1) := by decide +kernel
theorem d_Ns_listChildren_2 : decode b_Ns_listChildren 2 = .ok (.iconst 0, 1) := by decide +kernel
theorem d_Ns_listChildren_3 : decode b_Ns_listChildren 3 = .ok (.istore 4, 2) := by decide +kernel
theorem d_Ns_listChildren_5 : decode b_Ns_listChildren 5 = .ok (.iload 4, 2) := by decide +kernel
theorem d_Ns_listChildren_7 : decode b_Ns_listChildren 7 = .ok (.aload_n 0, 1) := by decide +kernel
theorem d_Ns_listChildren_8 : decode b_Ns_listChildren 8 = .ok (.getfield 20, 3) := by decide +kernel
theorem d_Ns_listChildren_11 : decode b_Ns_listChildren 11 = .ok (.if_icmp .ge 99, 3) := by decide +kernel
theorem d_Ns_listChildren_14 : decode b_Ns_listChildren 14 = .ok (.iload_n 3, 1) := by decide +kernel
theorem d_Ns_listChildren_15 : decode b_Ns_listChildren 15 = .ok (.bipush 30, 2) := by decide +kernel
theorem d_Ns_listChildren_17 : decode b_Ns_listChildren 17 = .ok (.if_icmp .ge 93, 3) := by decide +kernel
theorem d_Ns_listChildren_20 : decode b_Ns_listChildren 20 = .ok (.aload_n 0, 1) := by decide +kernel
theorem d_Ns_listChildren_21 : decode b_Ns_listChildren 21 = .ok (.getfield 11, 3) := by decide +kernel
theorem d_Ns_listChildren_24 : decode b_Ns_listChildren 24 = .ok (.iload 4, 2) := by decide +kernel
theorem d_Ns_listChildren_26 : decode b_Ns_listChildren 26 = .ok (.aaload, 1) := by decide +kernel
theorem d_Ns_listChildren_27 : decode b_Ns_listChildren 27 = .ok (.getfield 54, 3) := by decide +kernel
theorem d_Ns_listChildren_30 : decode b_Ns_listChildren 30 = .ok (.aload_n 1, 1) := by decide +kernel
theorem d_Ns_listChildren_31 : decode b_Ns_listChildren 31 = .ok (.if_acmp .ne 73, 3) := by decide +kernel
theorem d_Ns_listChildren_104 : decode b_Ns_listChildren 104 = .ok (.iinc 4 1, 3) := by decide +kernel
theorem d_Ns_listChildren_107 : decode b_Ns_listChildren 107 = .ok (.goto (-102), 3) := by decide +kernel
theorem d_Ns_listChildren_110 : decode b_Ns_listChildren 110 = .ok (.iload_n 3, 1) := by decide +kernel
theorem d_Ns_listChildren_111 : decode b_Ns_listChildren 111 = .ok (.ireturn, 1) := by decide +kernel
theorem d_Ns_putInOrder_0 : decode b_Ns_putInOrder 0 = .ok (.aload_n 0, 1) := by decide +kernel
theorem d_Ns_putInOrder_1 : decode b_Ns_putInOrder 1 = .ok (.getfield 17, 3) := by decide +kernel
theorem d_Ns_putInOrder_4 : decode b_Ns_putInOrder 4 = .ok (.iconst 0, 1) := by decide +kernel
theorem d_Ns_putInOrder_5 : decode b_Ns_putInOrder 5 = .ok (.aload_n 0, 1) := by decide +kernel
theorem d_Ns_putInOrder_6 : decode b_Ns_putInOrder 6 = .ok (.getfield 11, 3) := by decide +kernel
theorem d_Ns_putInOrder_9 : decode b_Ns_putInOrder 9 = .ok (.iconst 0, 1) := by decide +kernel
theorem d_Ns_putInOrder_10 : decode b_Ns_putInOrder 10 = .ok (.aaload, 1) := by decide +kernel
theorem d_Ns_putInOrder_11 : decode b_Ns_putInOrder 11 = .ok (.aastore, 1) := by decide +kernel
theorem d_Ns_putInOrder_12 : decode b_Ns_putInOrder 12 = .ok (.iconst 1, 1) := by decide +kernel
theorem d_Ns_putInOrder_13 : decode b_Ns_putInOrder 13 = .ok (.istore_n 1, 1) := by decide +kernel
theorem d_Ns_putInOrder_14 : decode b_Ns_putInOrder 14 = .ok (.iconst 0, 1) := by decide +kernel
theorem d_Ns_putInOrder_15 : decode b_Ns_putInOrder 15 = .ok (.istore_n 2, 1) := by decide +kernel
theorem d_Ns_putInOrder_16 : decode b_Ns_putInOrder 16 = .ok (.iload_n 2, 1) := by decide +kernel
theorem d_Ns_putInOrder_17 : decode b_Ns_putInOrder 17 = .ok (.iload_n 1, 1) := by decide +kernel
theorem d_Ns_putInOrder_18 : decode b_Ns_putInOrder 18 = .ok (.if_icmp .ge 39, 3) := by decide +kernel
theorem d_Ns_putInOrder_21 : decode b_Ns_putInOrder 21 = .ok (.iload_n 2, 1) := by decide +kernel
theorem d_Ns_putInOrder_22 : decode b_Ns_putInOrder 22 = .ok (.bipush 30, 2) := by decide +kernel
theorem d_Ns_putInOrder_24 : decode b_Ns_putInOrder 24 = .ok (.if_icmp .ge 33, 3) := by decide +kernel
theorem d_Ns_putInOrder_27 : decode b_Ns_putInOrder 27 = .ok (.aload_n 0, 1) := by decide +kernel
theorem d_Ns_putInOrder_28 : decode b_Ns_putInOrder 28 = .ok (.getfield 17, 3) := by decide +kernel
theorem d_Ns_putInOrder_31 : decode b_Ns_putInOrder 31 = .ok (.iload_n 2, 1) := by decide +kernel
theorem d_Ns_putInOrder_32 : decode b_Ns_putInOrder 32 = .ok (.aaload, 1) := by decide +kernel
theorem d_Ns_putInOrder_33 : decode b_Ns_putInOrder 33 = .ok (.getfield 58, 3) := by decide +kernel
theorem d_Ns_putInOrder_36 : decode b_Ns_putInOrder 36 = .ok (.ifCond .eq 15, 3) := by decide +kernel
theorem d_Ns_putInOrder_39 : decode b_Ns_putInOrder 39 = .ok (.aload_n 0, 1) := by decide +kernel
theorem d_Ns_putInOrder_40 : decode b_Ns_putInOrder 40 = .ok (.aload_n 0, 1) := by decide +kernel
theorem d_Ns_putInOrder_41 : decode b_Ns_putInOrder 41 = .ok (.getfield 17, 3) := by decide +kernel
theorem d_Ns_putInOrder_44 : decode b_Ns_putInOrder 44 = .ok (.iload_n 2, 1) := by decide +kernel
theorem d_Ns_putInOrder_45 : decode b_Ns_putInOrder 45 = .ok (.aaload, 1) := by decide +kernel
theorem d_Ns_putInOrder_46 : decode b_Ns_putInOrder 46 = .ok (.iload_n 1, 1) := by decide +kernel
theorem d_Ns_putInOrder_47 : decode b_Ns_putInOrder 47 = .ok (.invokevirtual 86, 3) := by decide +kernel
theorem d_Ns_putInOrder_50 : decode b_Ns_putInOrder 50 = .ok (.istore_n 1, 1) := by decide +kernel
theorem d_Ns_putInOrder_51 : decode b_Ns_putInOrder 51 = .ok (.iinc 2 1, 3) := by decide +kernel
theorem d_Ns_putInOrder_54 : decode b_Ns_putInOrder 54 = .ok (.goto (-38), 3) := by decide +kernel
theorem d_Ns_putInOrder_57 : decode b_Ns_putInOrder 57 = .ok (.return_, 1) := by decide +kernel
set_option maxHeartbeats 4000000 in
set_option maxRecDepth 100000 in
theorem c_Writer_place (l : Launch) (D : va_G) (t : Nat → ClassId) (G : Heap) (ak av : Nat → Nat) (h : hM) (wr ns sl od rt : Nat) (g : Nat → Option Nat) (sc np fi : Int32) (f_ns : h ns = some (.inr (2, [.ref sl, .ref od, .int 1, .int 1]))) (f_od : h od = some (.inl ((t 4), 30, .inr (.inr (.inr (.inr g)))))) (f_rt : h rt = some (.inr (1, [.int 0, .null, .int 1, .long 0, .int 0, .int 0, .int 0, .int 0, .int 0, .int sc, .int np]))) (hg0 : g 0 = some rt) : Met l y_Wr_placeDirectories (.code y_Wr_placeDirectories b_Wr_placeDirectories 5 (some .int) :: lw_g) { frames := 0, cells := 0, slots := 0, locals := 0 } (hP (kE D t G ak av) D vwCl G h [.ref wr, .ref ns, .int fi]) (hQi D vwCl G (fun r h' => r = 0 + 1 ∧ kp [rt] h h' ∧ h' rt = some (.inr (1, [.int 0, .null, .int 1, .long 0, .int 0, .int 0, .int 0, .int 0, .int 0, .int (fi + 0), .int np])))) 0 0 (fun q => G.size ≤ q) := by
  refine Met.ofW (cc := b_Wr_placeDirectories) (maxL := 5) (ret := (some .int)) (by decide) rfl ?_
  intro p e s m args below meth c s₁ Bd hml hv
  obtain ⟨ha, hE, hH⟩ := hv
  have hx := Bd.exec
  have hb := Bd.bytes
  have hr := Bd.returns
  have hts : ∀ w ∈ lw_g, w.before args s = true := fun w hw => atoms_spec (ws := (.code y_Wr_placeDirectories b_Wr_placeDirectories 5 (some .int) :: lw_g)) Bd.pre w (List.mem_cons_of_mem _ hw)
  have hown : s.vm.findClass R_Wr = some m.cls := findClass_of_methodNamed Bd.named
  have hlocks := Bd.notSynchronized
  have hK := hE.1
  have hH0 := hH
  have hLo : hLc G.size [] := hLc_nil
  have hz : s.heap.size ≤ s.heap.size := Nat.le_refl _
  have hkp : kp [rt] h h := kp_rf
  have hl := lv_entry [.ref wr, .ref ns, .int fi] (n := 5) (Nat.le_of_ble_eq_true rfl)
  rw [show entryFrame m args 5 = F0 m 0 ((lg_sl [.ref wr, .ref ns, .int fi] ++ List.replicate (5 - (lg_sl [.ref wr, .ref ns, .int fi]).length) Slot.unset).toArray) [] from (by rw [ha]; exact lg_entry_eq m [.ref wr, .ref ns, .int fi] 5)]
  generalize (lg_sl [.ref wr, .ref ns, .int fi] ++ List.replicate (5 - (lg_sl [.ref wr, .ref ns, .int fi]).length) Slot.unset).toArray = ls at hl ⊢
  have hl : lv_has ls 5 [(0, .ref wr), (1, .ref ns), (2, .int fi)] := hl
  refine lv_iconst (v := 0) hx hb d_Wr_placeDirectories_0 (by decide) ?_
  refine lv_istore_n (lv' := [(3, .int 0), (0, .ref wr), (1, .ref ns), (2, .int fi)]) hx hb d_Wr_placeDirectories_1 rfl hl (by decide) rfl (fun ls hl => ?_)
  refine lv_iconst (v := 0) hx hb d_Wr_placeDirectories_2 (by decide) ?_
  refine lv_istore (lv' := [(4, .int 0), (3, .int 0), (0, .ref wr), (1, .ref ns), (2, .int fi)]) hx hb d_Wr_placeDirectories_3 hl (by decide) rfl (fun ls hl => ?_)
  refine lv_iload hx hb d_Wr_placeDirectories_5 (lv_at hl 0 rfl) ?_
  refine lv_aload_n hx hb d_Wr_placeDirectories_7 rfl (lv_at hl 3 rfl) ?_
  refine hm_get (ci := 2) (v := .int 1) (C := R_Ns) (T := F_Ns) (N := 4) hx hb hts ig_Ns hown hK hH f_ns rfl 2 (by decide) (hts _ mw_180) (fun _ h9 => h9) rfl d_Wr_placeDirectories_8 ?_
  refine lv_icmp_ge (tgt := 49) hx hb d_Wr_placeDirectories_11 (by decide) (fun hc1 => absurd hc1 (by decide)) (fun hc1 => ?_)
  refine lv_aload_n hx hb d_Wr_placeDirectories_14 rfl (lv_at hl 3 rfl) ?_
  refine hm_get (ci := 2) (v := .ref od) (C := R_Ns) (T := F_Ns) (N := 4) hx hb hts ig_Ns hown hK hH f_ns rfl 1 (by decide) (hts _ mw_181) (fun _ h9 => h9) rfl d_Wr_placeDirectories_15 ?_
  refine lv_iload hx hb d_Wr_placeDirectories_18 (lv_at hl 0 rfl) ?_
  refine hj_aald (v := .ref rt) hx hb hK hH 4 f_od (C := R_No) rfl 0 (by decide) (by decide) (by decide) (by rw [hg0]; rfl) d_Wr_placeDirectories_20 ?_
  refine hm_get (ci := 1) (v := .int 1) (C := R_No) (T := F_No) (N := 11) hx hb hts ig_No hown hK hH f_rt rfl 2 (by decide) (hts _ mw_182) (fun _ h9 => h9) rfl d_Wr_placeDirectories_21 ?_
  refine lv_if_eq (tgt := 43) hx hb d_Wr_placeDirectories_24 (by decide) (fun hc2 => absurd hc2 (by decide)) (fun hc2 => ?_)
  refine lv_aload_n hx hb d_Wr_placeDirectories_27 rfl (lv_at hl 3 rfl) ?_
  refine hm_get (ci := 2) (v := .ref od) (C := R_Ns) (T := F_Ns) (N := 4) hx hb hts ig_Ns hown hK hH f_ns rfl 1 (by decide) (hts _ mw_181) (fun _ h9 => h9) rfl d_Wr_placeDirectories_28 ?_
  refine lv_iload hx hb d_Wr_placeDirectories_31 (lv_at hl 0 rfl) ?_
  refine hj_aald (v := .ref rt) hx hb hK hH 4 f_od (C := R_No) rfl 0 (by decide) (by decide) (by decide) (by rw [hg0]; rfl) d_Wr_placeDirectories_33 ?_
  refine lv_iload_n hx hb d_Wr_placeDirectories_34 rfl (lv_at hl 4 rfl) ?_
  refine lv_iload_n hx hb d_Wr_placeDirectories_35 rfl (lv_at hl 1 rfl) ?_
  refine lv_iadd hx hb d_Wr_placeDirectories_36 ?_
  refine hm_put (ci := 1) (v := .int (fi + 0)) (ty := .int) (C := R_No) (T := F_No) (N := 11) hx hb hts ig_No t_No tk_No nm_No hown hK hH hLo f_rt rfl 9 (by decide) (hts _ mw_183) (fun _ h9 => h9) rfl (by decide +kernel) rfl rfl (Nat.le_of_ble_eq_true rfl) d_Wr_placeDirectories_37 (fun H3 locs hH z4 hLo => ?_)
  have hz : s.heap.size ≤ H3.size := by rw [z4]; exact hz
  obtain ⟨h5, e6⟩ : ∃ z, z = hu h rt (.inr (1, [.int 0, .null, .int 1, .long 0, .int 0, .int 0, .int 0, .int 0, .int 0, .int (fi + 0), .int np])) := ⟨_, rfl⟩
  have hH : hm D vwCl G h5 H3 := by rw [e6]; exact hH
  have f_ns : h5 ns = some (.inr (2, [.ref sl, .ref od, .int 1, .int 1])) := by rw [e6, hu_n (h_neC f_ns f_rt (by decide))]; exact f_ns
  have f_od : h5 od = some (.inl ((t 4), 30, .inr (.inr (.inr (.inr g))))) := by rw [e6, hu_n (h_neA f_od f_rt)]; exact f_od
  have f_rt : h5 rt = some (.inr (1, [.int 0, .null, .int 1, .long 0, .int 0, .int 0, .int 0, .int 0, .int 0, .int (fi + 0), .int np])) := by rw [e6]; exact hu_s _ _ _
  have hkp : kp [rt] h h5 := by rw [e6]; exact kp_put hkp (by simp)
  refine lv_iinc (v := 0 + 1) (lv' := [(3, .int (0 + 1)), (4, .int 0), (0, .ref wr), (1, .ref ns), (2, .int fi)]) hx hb d_Wr_placeDirectories_40 hl (k := 1) rfl (by rfl) (by decide) rfl (fun ls hl => ?_)
  refine lv_iinc (v := 0 + 1) (lv' := [(4, .int (0 + 1)), (3, .int (0 + 1)), (0, .ref wr), (1, .ref ns), (2, .int fi)]) hx hb d_Wr_placeDirectories_43 hl (k := 1) rfl (by rfl) (by decide) rfl (fun ls hl => ?_)
  refine lv_goto (tgt := 5) hx hb d_Wr_placeDirectories_46 (by decide) ?_
  refine lv_iload hx hb d_Wr_placeDirectories_5 (lv_at hl 0 rfl) ?_
  refine lv_aload_n hx hb d_Wr_placeDirectories_7 rfl (lv_at hl 3 rfl) ?_
  refine hm_get (ci := 2) (v := .int 1) (C := R_Ns) (T := F_Ns) (N := 4) hx hb hts ig_Ns hown hK hH f_ns rfl 2 (by decide) (hts _ mw_180) (fun _ h9 => h9) rfl d_Wr_placeDirectories_8 ?_
  refine lv_icmp_ge (tgt := 49) hx hb d_Wr_placeDirectories_11 (by decide) (fun hc7 => ?_) (fun hc7 => absurd (by decide) hc7)
  refine lv_iload_n hx hb d_Wr_placeDirectories_49 rfl (lv_at hl 1 rfl) ?_
  exact W.iret (v := 0 + 1) hx hb hr (fun t9 ht hW => ⟨0 + 1, h5, rfl, ⟨rfl, hkp, f_rt⟩, by rw [ht]; exact hH, by rw [ht]; exact hz⟩) hLo d_Wr_placeDirectories_50

set_option maxHeartbeats 4000000 in
set_option maxRecDepth 100000 in
theorem c_Nodes_children (l : Launch) (D : va_G) (t : Nat → ClassId) (G : Heap) (ak av : Nat → Nat) (h : hM) (ns sl od rt : Nat) (fs : Nat → Option Nat) (sc np : Int32) (f_ns : h ns = some (.inr (2, [.ref sl, .ref od, .int 1, .int 1]))) (f_sl : h sl = some (.inl ((t 4), 30, .inr (.inr (.inr (.inr fs)))))) (f_rt : h rt = some (.inr (1, [.int 0, .null, .int 1, .long 0, .int 0, .int 0, .int 0, .int 0, .int 0, .int sc, .int np]))) (hf0 : fs 0 = some rt) : Met l y_Ns_listChildren (.code y_Ns_listChildren b_Ns_listChildren 6 (some .int) :: lw_g) { frames := 0, cells := 0, slots := 0, locals := 0 } (hP (kE D t G ak av) D vwCl G h [.ref ns, .ref rt, .int 1]) (hQi D vwCl G (fun r h' => r = 1 ∧ h = h')) 0 0 (fun q => G.size ≤ q) := by
  refine Met.ofW (cc := b_Ns_listChildren) (maxL := 6) (ret := (some .int)) (by decide) rfl ?_
  intro p e s m args below meth c s₁ Bd hml hv
  obtain ⟨ha, hE, hH⟩ := hv
  have hx := Bd.exec
  have hb := Bd.bytes
  have hr := Bd.returns
  have hts : ∀ w ∈ lw_g, w.before args s = true := fun w hw => atoms_spec (ws := (.code y_Ns_listChildren b_Ns_listChildren 6 (some .int) :: lw_g)) Bd.pre w (List.mem_cons_of_mem _ hw)
  have hown : s.vm.findClass R_Ns = some m.cls := findClass_of_methodNamed Bd.named
  have hlocks := Bd.notSynchronized
  have hK := hE.1
  have hH0 := hH
  have hLo : hLc G.size [] := hLc_nil
  have hz : s.heap.size ≤ s.heap.size := Nat.le_refl _
  have hkp : kp [] h h := kp_rf
  have hl := lv_entry [.ref ns, .ref rt, .int 1] (n := 6) (Nat.le_of_ble_eq_true rfl)
  rw [show entryFrame m args 6 = F0 m 0 ((lg_sl [.ref ns, .ref rt, .int 1] ++ List.replicate (6 - (lg_sl [.ref ns, .ref rt, .int 1]).length) Slot.unset).toArray) [] from (by rw [ha]; exact lg_entry_eq m [.ref ns, .ref rt, .int 1] 6)]
  generalize (lg_sl [.ref ns, .ref rt, .int 1] ++ List.replicate (6 - (lg_sl [.ref ns, .ref rt, .int 1]).length) Slot.unset).toArray = ls at hl ⊢
  have hl : lv_has ls 6 [(0, .ref ns), (1, .ref rt), (2, .int 1)] := hl
  refine lv_iload_n hx hb d_Ns_listChildren_0 rfl (lv_at hl 2 rfl) ?_
  refine lv_istore_n (lv' := [(3, .int 1), (0, .ref ns), (1, .ref rt), (2, .int 1)]) hx hb d_Ns_listChildren_1 rfl hl (by decide) rfl (fun ls hl => ?_)
  refine lv_iconst (v := 0) hx hb d_Ns_listChildren_2 (by decide) ?_
  refine lv_istore (lv' := [(4, .int 0), (3, .int 1), (0, .ref ns), (1, .ref rt), (2, .int 1)]) hx hb d_Ns_listChildren_3 hl (by decide) rfl (fun ls hl => ?_)
  refine lv_iload hx hb d_Ns_listChildren_5 (lv_at hl 0 rfl) ?_
  refine lv_aload_n hx hb d_Ns_listChildren_7 rfl (lv_at hl 2 rfl) ?_
  refine hm_get (ci := 2) (v := .int 1) (C := R_Ns) (T := F_Ns) (N := 4) hx hb hts ig_Ns hown hK hH f_ns rfl 2 (by decide) (hts _ mw_37) (fun _ h9 => h9) rfl d_Ns_listChildren_8 ?_
  refine lv_icmp_ge (tgt := 110) hx hb d_Ns_listChildren_11 (by decide) (fun hc1 => absurd hc1 (by decide)) (fun hc1 => ?_)
  refine lv_iload_n hx hb d_Ns_listChildren_14 rfl (lv_at hl 1 rfl) ?_
  refine lv_bipush (v := 30) hx hb d_Ns_listChildren_15 (by decide) ?_
  refine lv_icmp_ge (tgt := 110) hx hb d_Ns_listChildren_17 (by decide) (fun hc2 => absurd hc2 (by decide)) (fun hc2 => ?_)
  refine lv_aload_n hx hb d_Ns_listChildren_20 rfl (lv_at hl 2 rfl) ?_
  refine hm_get (ci := 2) (v := .ref sl) (C := R_Ns) (T := F_Ns) (N := 4) hx hb hts ig_Ns hown hK hH f_ns rfl 0 (by decide) (hts _ mw_35) (fun _ h9 => h9) rfl d_Ns_listChildren_21 ?_
  refine lv_iload hx hb d_Ns_listChildren_24 (lv_at hl 0 rfl) ?_
  refine hj_aald (v := .ref rt) hx hb hK hH 4 f_sl (C := R_No) rfl 0 (by decide) (by decide) (by decide) (by rw [hf0]; rfl) d_Ns_listChildren_26 ?_
  refine hm_get (ci := 1) (v := .null) (C := R_No) (T := F_No) (N := 11) hx hb hts ig_No hown hK hH f_rt rfl 1 (by decide) (hts _ mw_184) (fun _ h9 => h9) rfl d_Ns_listChildren_27 ?_
  refine lv_aload_n hx hb d_Ns_listChildren_30 rfl (lv_at hl 3 rfl) ?_
  refine lv_acmp_ne (rx := none) (ry := some rt) (tgt := 104) hx hb d_Ns_listChildren_31 (by decide) (fun hc3 => ?_) (fun hc3 => absurd hc3 (by simp))
  refine lv_iinc (v := 0 + 1) (lv' := [(4, .int (0 + 1)), (3, .int 1), (0, .ref ns), (1, .ref rt), (2, .int 1)]) hx hb d_Ns_listChildren_104 hl (k := 0) rfl (by rfl) (by decide) rfl (fun ls hl => ?_)
  refine lv_goto (tgt := 5) hx hb d_Ns_listChildren_107 (by decide) ?_
  refine lv_iload hx hb d_Ns_listChildren_5 (lv_at hl 0 rfl) ?_
  refine lv_aload_n hx hb d_Ns_listChildren_7 rfl (lv_at hl 2 rfl) ?_
  refine hm_get (ci := 2) (v := .int 1) (C := R_Ns) (T := F_Ns) (N := 4) hx hb hts ig_Ns hown hK hH f_ns rfl 2 (by decide) (hts _ mw_37) (fun _ h9 => h9) rfl d_Ns_listChildren_8 ?_
  refine lv_icmp_ge (tgt := 110) hx hb d_Ns_listChildren_11 (by decide) (fun hc4 => ?_) (fun hc4 => absurd (by decide) hc4)
  refine lv_iload_n hx hb d_Ns_listChildren_110 rfl (lv_at hl 1 rfl) ?_
  exact W.iret (v := 1) hx hb hr (fun t9 ht hW => ⟨1, h, rfl, ⟨rfl, rfl⟩, by rw [ht]; exact hH, by rw [ht]; exact hz⟩) hLo d_Ns_listChildren_111

set_option maxHeartbeats 4000000 in
set_option maxRecDepth 100000 in
theorem c_Nodes_order (l : Launch) (D : va_G) (t : Nat → ClassId) (G : Heap) (ak av : Nat → Nat) (h : hM) (ns sl od rt : Nat) (fs g : Nat → Option Nat) (sc np : Int32) (f_ns : h ns = some (.inr (2, [.ref sl, .ref od, .int 1, .int 1]))) (f_sl : h sl = some (.inl ((t 4), 30, .inr (.inr (.inr (.inr fs)))))) (f_od : h od = some (.inl ((t 4), 30, .inr (.inr (.inr (.inr g)))))) (f_rt : h rt = some (.inr (1, [.int 0, .null, .int 1, .long 0, .int 0, .int 0, .int 0, .int 0, .int 0, .int sc, .int np]))) (hf0 : fs 0 = some rt) (ne_sl_od : sl ≠ od) : Met l y_Ns_putInOrder (.code y_Ns_putInOrder b_Ns_putInOrder 3 none :: lw_g) { frames := 1, cells := 0, slots := 0, locals := 25 } (hP (kE D t G ak av) D vwCl G h [.ref ns]) (hQv D vwCl G (fun h' => kp [od] h h' ∧ h' od = some (.inl ((t 4), 30, .inr (.inr (.inr (.inr (va_up g 0 (some rt))))))))) 0 0 (fun q => G.size ≤ q) := by
  refine Met.ofW (cc := b_Ns_putInOrder) (maxL := 3) (ret := none) (by decide) rfl ?_
  intro p e s m args below meth c s₁ Bd hml hv
  obtain ⟨ha, hE, hH⟩ := hv
  have hx := Bd.exec
  have hb := Bd.bytes
  have hr := Bd.returns
  have hts : ∀ w ∈ lw_g, w.before args s = true := fun w hw => atoms_spec (ws := (.code y_Ns_putInOrder b_Ns_putInOrder 3 none :: lw_g)) Bd.pre w (List.mem_cons_of_mem _ hw)
  have hown : s.vm.findClass R_Ns = some m.cls := findClass_of_methodNamed Bd.named
  have hlocks := Bd.notSynchronized
  have hK := hE.1
  have hH0 := hH
  have hLo : hLc G.size [] := hLc_nil
  have hz : s.heap.size ≤ s.heap.size := Nat.le_refl _
  have hkp : kp [od] h h := kp_rf
  have hl := lv_entry [.ref ns] (n := 3) (Nat.le_of_ble_eq_true rfl)
  rw [show entryFrame m args 3 = F0 m 0 ((lg_sl [.ref ns] ++ List.replicate (3 - (lg_sl [.ref ns]).length) Slot.unset).toArray) [] from (by rw [ha]; exact lg_entry_eq m [.ref ns] 3)]
  generalize (lg_sl [.ref ns] ++ List.replicate (3 - (lg_sl [.ref ns]).length) Slot.unset).toArray = ls at hl ⊢
  have hl : lv_has ls 3 [(0, .ref ns)] := hl
  refine lv_aload_n hx hb d_Ns_putInOrder_0 rfl (lv_at hl 0 rfl) ?_
  refine hm_get (ci := 2) (v := .ref od) (C := R_Ns) (T := F_Ns) (N := 4) hx hb hts ig_Ns hown hK hH f_ns rfl 1 (by decide) (hts _ mw_36) (fun _ h9 => h9) rfl d_Ns_putInOrder_1 ?_
  refine lv_iconst (v := 0) hx hb d_Ns_putInOrder_4 (by decide) ?_
  refine lv_aload_n hx hb d_Ns_putInOrder_5 rfl (lv_at hl 0 rfl) ?_
  refine hm_get (ci := 2) (v := .ref sl) (C := R_Ns) (T := F_Ns) (N := 4) hx hb hts ig_Ns hown hK hH f_ns rfl 0 (by decide) (hts _ mw_35) (fun _ h9 => h9) rfl d_Ns_putInOrder_6 ?_
  refine lv_iconst (v := 0) hx hb d_Ns_putInOrder_9 (by decide) ?_
  refine hj_aald (v := .ref rt) hx hb hK hH 4 f_sl (C := R_No) rfl 0 (by decide) (by decide) (by decide) (by rw [hf0]; rfl) d_Ns_putInOrder_10 ?_
  refine hj_aast hx hb hK hH hLo 4 1 f_od rfl f_rt rfl 0 (by decide) (by decide) (by decide) d_Ns_putInOrder_11 (fun H1 locs hH z2 hLo => ?_)
  have hz : s.heap.size ≤ H1.size := by rw [z2]; exact hz
  obtain ⟨h3, e4⟩ : ∃ z, z = hu h od (.inl ((t 4), 30, .inr (.inr (.inr (.inr (va_up g 0 (some rt))))))) := ⟨_, rfl⟩
  have hH : hm D vwCl G h3 H1 := by rw [e4]; exact hH
  have f_ns : h3 ns = some (.inr (2, [.ref sl, .ref od, .int 1, .int 1])) := by rw [e4, hu_n (Ne.symm (h_neA f_od f_ns))]; exact f_ns
  have f_sl : h3 sl = some (.inl ((t 4), 30, .inr (.inr (.inr (.inr fs))))) := by rw [e4, hu_n ne_sl_od]; exact f_sl
  have f_rt : h3 rt = some (.inr (1, [.int 0, .null, .int 1, .long 0, .int 0, .int 0, .int 0, .int 0, .int 0, .int sc, .int np])) := by rw [e4, hu_n (Ne.symm (h_neA f_od f_rt))]; exact f_rt
  have f_od : h3 od = some (.inl ((t 4), 30, .inr (.inr (.inr (.inr (va_up g 0 (some rt))))))) := by rw [e4]; exact hu_s _ _ _
  have hkp : kp [od] h h3 := by rw [e4]; exact kp_put hkp (by simp)
  refine lv_iconst (v := 1) hx hb d_Ns_putInOrder_12 (by decide) ?_
  refine lv_istore_n (lv' := [(1, .int 1), (0, .ref ns)]) hx hb d_Ns_putInOrder_13 rfl hl (by decide) rfl (fun ls hl => ?_)
  refine lv_iconst (v := 0) hx hb d_Ns_putInOrder_14 (by decide) ?_
  refine lv_istore_n (lv' := [(2, .int 0), (1, .int 1), (0, .ref ns)]) hx hb d_Ns_putInOrder_15 rfl hl (by decide) rfl (fun ls hl => ?_)
  refine lv_iload_n hx hb d_Ns_putInOrder_16 rfl (lv_at hl 0 rfl) ?_
  refine lv_iload_n hx hb d_Ns_putInOrder_17 rfl (lv_at hl 1 rfl) ?_
  refine lv_icmp_ge (tgt := 57) hx hb d_Ns_putInOrder_18 (by decide) (fun hc5 => absurd hc5 (by decide)) (fun hc5 => ?_)
  refine lv_iload_n hx hb d_Ns_putInOrder_21 rfl (lv_at hl 0 rfl) ?_
  refine lv_bipush (v := 30) hx hb d_Ns_putInOrder_22 (by decide) ?_
  refine lv_icmp_ge (tgt := 57) hx hb d_Ns_putInOrder_24 (by decide) (fun hc6 => absurd hc6 (by decide)) (fun hc6 => ?_)
  refine lv_aload_n hx hb d_Ns_putInOrder_27 rfl (lv_at hl 2 rfl) ?_
  refine hm_get (ci := 2) (v := .ref od) (C := R_Ns) (T := F_Ns) (N := 4) hx hb hts ig_Ns hown hK hH f_ns rfl 1 (by decide) (hts _ mw_36) (fun _ h9 => h9) rfl d_Ns_putInOrder_28 ?_
  refine lv_iload_n hx hb d_Ns_putInOrder_31 rfl (lv_at hl 0 rfl) ?_
  refine hj_aald (v := .ref rt) hx hb hK hH 4 f_od (C := R_No) rfl 0 (by decide) (by decide) (by decide) (by rw [va_up_self]; rfl) d_Ns_putInOrder_32 ?_
  refine hm_get (ci := 1) (v := .int 1) (C := R_No) (T := F_No) (N := 11) hx hb hts ig_No hown hK hH f_rt rfl 2 (by decide) (hts _ mw_185) (fun _ h9 => h9) rfl d_Ns_putInOrder_33 ?_
  refine lv_if_eq (tgt := 51) hx hb d_Ns_putInOrder_36 (by decide) (fun hc7 => absurd hc7 (by decide)) (fun hc7 => ?_)
  refine lv_aload_n hx hb d_Ns_putInOrder_39 rfl (lv_at hl 2 rfl) ?_
  refine lv_aload_n hx hb d_Ns_putInOrder_40 rfl (lv_at hl 2 rfl) ?_
  refine hm_get (ci := 2) (v := .ref od) (C := R_Ns) (T := F_Ns) (N := 4) hx hb hts ig_Ns hown hK hH f_ns rfl 1 (by decide) (hts _ mw_36) (fun _ h9 => h9) rfl d_Ns_putInOrder_41 ?_
  refine lv_iload_n hx hb d_Ns_putInOrder_44 rfl (lv_at hl 0 rfl) ?_
  refine hj_aald (v := .ref rt) hx hb hK hH 4 f_od (C := R_No) rfl 0 (by decide) (by decide) (by decide) (by rw [va_up_self]; rfl) d_Ns_putInOrder_45 ?_
  refine lv_iload_n hx hb d_Ns_putInOrder_46 rfl (lv_at hl 1 rfl) ?_
  refine hm_calli (va_runV (As := [.ref rt, .int 1]) (b := ns) (rest := []) ⟨hx, hb, hml, hown, hts⟩ (c_Nodes_children l D t G ak av h3 ns sl od rt fs sc np f_ns f_sl f_rt hf0) ⟨cw9B 2 hts mw_186 mw_188 mw_187 rfl rfl (by decide +kernel) ⟨Nat.le_of_ble_eq_true rfl, Nat.le_of_ble_eq_true rfl⟩, hts _ mw_189, hts _ mw_190⟩ (hP_V (q := (R_Ns, F_Ns, 4)) kE_ok hE hK hH f_ns rfl) rfl rfl hl.1 rfl (lv_room (Nat.le_of_ble_eq_true rfl)) d_Ns_putInOrder_47 ⟨Nat.le_of_ble_eq_true rfl, Nat.le_of_ble_eq_true rfl⟩) hLo (fun r8 h9 H10 locs hp12 hH z11 hLo => ?_)
  have hz : s.heap.size ≤ H10.size := Nat.le_trans hz z11
  obtain ⟨rfl, rfl⟩ := hp12
  refine lv_istore_n (lv' := [(1, .int 1), (2, .int 0), (0, .ref ns)]) hx hb d_Ns_putInOrder_50 rfl hl (by decide) rfl (fun ls hl => ?_)
  refine lv_iinc (v := 0 + 1) (lv' := [(2, .int (0 + 1)), (1, .int 1), (0, .ref ns)]) hx hb d_Ns_putInOrder_51 hl (k := 1) rfl (by rfl) (by decide) rfl (fun ls hl => ?_)
  refine lv_goto (tgt := 16) hx hb d_Ns_putInOrder_54 (by decide) ?_
  refine lv_iload_n hx hb d_Ns_putInOrder_16 rfl (lv_at hl 0 rfl) ?_
  refine lv_iload_n hx hb d_Ns_putInOrder_17 rfl (lv_at hl 1 rfl) ?_
  refine lv_icmp_ge (tgt := 57) hx hb d_Ns_putInOrder_18 (by decide) (fun hc13 => ?_) (fun hc13 => absurd (by decide) hc13)
  exact W.vret hx hb hr (fun t9 ht hW => ⟨h3, rfl, ⟨hkp, f_od⟩, by rw [ht]; exact hH, by rw [ht]; exact hz⟩) hLo d_Ns_putInOrder_57
end
section
set_option maxRecDepth 100000 in
theorem mw_191 : Cond.code y_Pg_fillWithPathTable b_Pg_fillWithPathTable 7 (some .int) ∈ lw_g := lw_gin (List.mem_append_right _ (List.mem_of_getElem? (i := 532) rfl)) (by decide +kernel)
set_option maxRecDepth 100000 in
theorem mw_192 : Cond.methodLink R_Wr 121 y_Pg_fillWithPathTable ∈ lw_g := lw_gin (List.mem_append_right _ (List.mem_of_getElem? (i := 529) rfl)) (by decide +kernel)
set_option maxRecDepth 100000 in
theorem mw_193 : Cond.instanceMethod y_Pg_fillWithPathTable ∈ lw_g := lw_gin (List.mem_append_right _ (List.mem_of_getElem? (i := 530) rfl)) (by decide +kernel)
set_option maxRecDepth 100000 in
theorem mw_194 : Cond.selects R_Pg y_Pg_fillWithPathTable y_Pg_fillWithPathTable ∈ lw_g := lw_gin (List.mem_append_right _ (List.mem_of_getElem? (i := 531) rfl)) (by decide +kernel)
set_option maxRecDepth 100000 in
theorem mw_195 : Cond.fieldLink R_Wr 33 "WriteOnceDisc$Nodes" "slots" "[LWriteOnceDisc$Node;" ∈ lw_g := lw_gin (List.mem_append_right _ (List.mem_of_getElem? (i := 180) rfl)) (by decide +kernel)
set_option maxRecDepth 100000 in
theorem mw_196 : Cond.code y_Pg_fillWithDescriptor b_Pg_fillWithDescriptor 5 none ∈ lw_g := lw_gin (List.mem_append_right _ (List.mem_of_getElem? (i := 557) rfl)) (by decide +kernel)
set_option maxRecDepth 100000 in
theorem mw_197 : Cond.methodLink R_Wr 125 y_Pg_fillWithDescriptor ∈ lw_g := lw_gin (List.mem_append_right _ (List.mem_of_getElem? (i := 554) rfl)) (by decide +kernel)
set_option maxRecDepth 100000 in
theorem mw_198 : Cond.instanceMethod y_Pg_fillWithDescriptor ∈ lw_g := lw_gin (List.mem_append_right _ (List.mem_of_getElem? (i := 555) rfl)) (by decide +kernel)
set_option maxRecDepth 100000 in
theorem mw_199 : Cond.selects R_Pg y_Pg_fillWithDescriptor y_Pg_fillWithDescriptor ∈ lw_g := lw_gin (List.mem_append_right _ (List.mem_of_getElem? (i := 556) rfl)) (by decide +kernel)
set_option maxRecDepth 100000 in
theorem mw_200 : Cond.fieldLink R_Wr 88 "WriteOnceDisc$Page" "bytes" "[B" ∈ lw_g := lw_gin (List.mem_append_right _ (List.mem_of_getElem? (i := 62) rfl)) (by decide +kernel)
set_option maxRecDepth 100000 in
theorem mw_201 : Cond.code y_Me_write b_Me_write 6 (some .int) ∈ lw_g := lw_gin (List.mem_append_right _ (List.mem_of_getElem? (i := 432) rfl)) (by decide +kernel)
set_option maxRecDepth 100000 in
theorem mw_202 : Cond.methodLink R_Wr 92 y_Me_write ∈ lw_g := lw_gin (List.mem_append_right _ (List.mem_of_getElem? (i := 429) rfl)) (by decide +kernel)
set_option maxRecDepth 100000 in
theorem mw_203 : Cond.instanceMethod y_Me_write ∈ lw_g := lw_gin (List.mem_append_right _ (List.mem_of_getElem? (i := 430) rfl)) (by decide +kernel)
set_option maxRecDepth 100000 in
theorem mw_204 : Cond.selects R_Me y_Me_write y_Me_write ∈ lw_g := lw_gin (List.mem_append_right _ (List.mem_of_getElem? (i := 431) rfl)) (by decide +kernel)
set_option maxRecDepth 100000 in
theorem mw_205 : Cond.methodLink R_Wr 129 y_Pg_fillWithStandard ∈ lw_g := lw_gin (List.mem_append_right _ (List.mem_of_getElem? (i := 577) rfl)) (by decide +kernel)
set_option maxRecDepth 100000 in
theorem mw_206 : Cond.code y_Pg_fillWithDirectory b_Pg_fillWithDirectory 6 none ∈ lw_g := lw_gin (List.mem_append_right _ (List.mem_of_getElem? (i := 585) rfl)) (by decide +kernel)
set_option maxRecDepth 100000 in
theorem mw_207 : Cond.methodLink R_Wr 132 y_Pg_fillWithDirectory ∈ lw_g := lw_gin (List.mem_append_right _ (List.mem_of_getElem? (i := 582) rfl)) (by decide +kernel)
set_option maxRecDepth 100000 in
theorem mw_208 : Cond.instanceMethod y_Pg_fillWithDirectory ∈ lw_g := lw_gin (List.mem_append_right _ (List.mem_of_getElem? (i := 583) rfl)) (by decide +kernel)
set_option maxRecDepth 100000 in
theorem mw_209 : Cond.selects R_Pg y_Pg_fillWithDirectory y_Pg_fillWithDirectory ∈ lw_g := lw_gin (List.mem_append_right _ (List.mem_of_getElem? (i := 584) rfl)) (by decide +kernel)
set_option maxRecDepth 100000 in
theorem mw_210 : Cond.code y_Pg_fillWithMark b_Pg_fillWithMark 3 none ∈ lw_g := lw_gin (List.mem_append_right _ (List.mem_of_getElem? (i := 593) rfl)) (by decide +kernel)
set_option maxRecDepth 100000 in
theorem mw_211 : Cond.methodLink R_Wr 136 y_Pg_fillWithMark ∈ lw_g := lw_gin (List.mem_append_right _ (List.mem_of_getElem? (i := 590) rfl)) (by decide +kernel)
set_option maxRecDepth 100000 in
theorem mw_212 : Cond.instanceMethod y_Pg_fillWithMark ∈ lw_g := lw_gin (List.mem_append_right _ (List.mem_of_getElem? (i := 591) rfl)) (by decide +kernel)
set_option maxRecDepth 100000 in
theorem mw_213 : Cond.selects R_Pg y_Pg_fillWithMark y_Pg_fillWithMark ∈ lw_g := lw_gin (List.mem_append_right _ (List.mem_of_getElem? (i := 592) rfl)) (by decide +kernel)
set_option maxRecDepth 100000 in
theorem mw_214 : Cond.fieldLink R_Wr 73 "WriteOnceDisc$Medium" "front" "I" ∈ lw_g := lw_gin (List.mem_append_right _ (List.mem_of_getElem? (i := 229) rfl)) (by decide +kernel)
set_option maxRecDepth 100000 in
theorem mw_215 : Cond.code y_Ns_putInOrder b_Ns_putInOrder 3 none ∈ lw_g := lw_gin (List.mem_append_right _ (List.mem_of_getElem? (i := 455) rfl)) (by decide +kernel)
set_option maxRecDepth 100000 in
theorem mw_216 : Cond.methodLink R_Wr 96 y_Ns_putInOrder ∈ lw_g := lw_gin (List.mem_append_right _ (List.mem_of_getElem? (i := 452) rfl)) (by decide +kernel)
set_option maxRecDepth 100000 in
theorem mw_217 : Cond.instanceMethod y_Ns_putInOrder ∈ lw_g := lw_gin (List.mem_append_right _ (List.mem_of_getElem? (i := 453) rfl)) (by decide +kernel)
set_option maxRecDepth 100000 in
theorem mw_218 : Cond.selects R_Ns y_Ns_putInOrder y_Ns_putInOrder ∈ lw_g := lw_gin (List.mem_append_right _ (List.mem_of_getElem? (i := 454) rfl)) (by decide +kernel)
set_option maxRecDepth 100000 in
theorem mw_219 : Cond.fieldLink R_Wr 67 "WriteOnceDisc$Medium" "sectors" "[LWriteOnceDisc$Sector;" ∈ lw_g := lw_gin (List.mem_append_right _ (List.mem_of_getElem? (i := 225) rfl)) (by decide +kernel)
set_option maxRecDepth 100000 in
theorem mw_220 : Cond.code y_Wr_placeDirectories b_Wr_placeDirectories 5 (some .int) ∈ lw_g := lw_gin (List.mem_append_right _ (List.mem_of_getElem? (i := 524) rfl)) (by decide +kernel)
set_option maxRecDepth 100000 in
theorem mw_221 : Cond.initialized R_Wr ∈ lw_g := lw_gin (List.mem_append_right _ (List.mem_of_getElem? (i := 2) rfl)) (by decide +kernel)
set_option maxRecDepth 100000 in
theorem mw_222 : Cond.methodLink R_Wr 99 y_Wr_placeDirectories ∈ lw_g := lw_gin (List.mem_append_right _ (List.mem_of_getElem? (i := 521) rfl)) (by decide +kernel)
set_option maxRecDepth 100000 in
theorem mw_223 : Cond.instanceMethod y_Wr_placeDirectories ∈ lw_g := lw_gin (List.mem_append_right _ (List.mem_of_getElem? (i := 523) rfl)) (by decide +kernel)
set_option maxRecDepth 100000 in
theorem mw_224 : Cond.selects R_Wr y_Wr_placeDirectories y_Wr_placeDirectories ∈ lw_g := lw_gin (List.mem_append_left _ (List.mem_of_getElem? (i := 4) rfl)) (by decide +kernel)
set_option maxRecDepth 100000 in
theorem mw_225 : Cond.code y_Me_hasRoom b_Me_hasRoom 3 (some .boolean) ∈ lw_g := lw_gin (List.mem_append_right _ (List.mem_of_getElem? (i := 391) rfl)) (by decide +kernel)
set_option maxRecDepth 100000 in
theorem mw_226 : Cond.methodLink R_Wr 76 y_Me_hasRoom ∈ lw_g := lw_gin (List.mem_append_right _ (List.mem_of_getElem? (i := 388) rfl)) (by decide +kernel)
set_option maxRecDepth 100000 in
theorem mw_227 : Cond.instanceMethod y_Me_hasRoom ∈ lw_g := lw_gin (List.mem_append_right _ (List.mem_of_getElem? (i := 389) rfl)) (by decide +kernel)
set_option maxRecDepth 100000 in
theorem mw_228 : Cond.selects R_Me y_Me_hasRoom y_Me_hasRoom ∈ lw_g := lw_gin (List.mem_append_right _ (List.mem_of_getElem? (i := 390) rfl)) (by decide +kernel)
set_option maxRecDepth 100000 in
theorem mw_229 : Cond.code y_Wr_writeHead b_Wr_writeHead 7 (some .int) ∈ lw_g := lw_gin (List.mem_append_right _ (List.mem_of_getElem? (i := 528) rfl)) (by decide +kernel)
set_option maxRecDepth 100000 in
theorem mw_230 : Cond.methodLink R_Wr 103 y_Wr_writeHead ∈ lw_g := lw_gin (List.mem_append_right _ (List.mem_of_getElem? (i := 525) rfl)) (by decide +kernel)
set_option maxRecDepth 100000 in
theorem mw_231 : Cond.instanceMethod y_Wr_writeHead ∈ lw_g := lw_gin (List.mem_append_right _ (List.mem_of_getElem? (i := 527) rfl)) (by decide +kernel)
set_option maxRecDepth 100000 in
theorem mw_232 : Cond.selects R_Wr y_Wr_writeHead y_Wr_writeHead ∈ lw_g := lw_gin (List.mem_append_left _ (List.mem_of_getElem? (i := 5) rfl)) (by decide +kernel)
set_option maxRecDepth 100000 in
theorem mw_233 : Cond.code y_Wr_writeDirectories b_Wr_writeDirectories 5 (some .int) ∈ lw_g := lw_gin (List.mem_append_right _ (List.mem_of_getElem? (i := 581) rfl)) (by decide +kernel)
set_option maxRecDepth 100000 in
theorem mw_234 : Cond.methodLink R_Wr 107 y_Wr_writeDirectories ∈ lw_g := lw_gin (List.mem_append_right _ (List.mem_of_getElem? (i := 578) rfl)) (by decide +kernel)
set_option maxRecDepth 100000 in
theorem mw_235 : Cond.instanceMethod y_Wr_writeDirectories ∈ lw_g := lw_gin (List.mem_append_right _ (List.mem_of_getElem? (i := 580) rfl)) (by decide +kernel)
set_option maxRecDepth 100000 in
theorem mw_236 : Cond.selects R_Wr y_Wr_writeDirectories y_Wr_writeDirectories ∈ lw_g := lw_gin (List.mem_append_left _ (List.mem_of_getElem? (i := 9) rfl)) (by decide +kernel)
set_option maxRecDepth 100000 in
theorem mw_237 : Cond.code y_Wr_writeMark b_Wr_writeMark 4 (some .int) ∈ lw_g := lw_gin (List.mem_append_right _ (List.mem_of_getElem? (i := 589) rfl)) (by decide +kernel)
set_option maxRecDepth 100000 in
theorem mw_238 : Cond.methodLink R_Wr 111 y_Wr_writeMark ∈ lw_g := lw_gin (List.mem_append_right _ (List.mem_of_getElem? (i := 586) rfl)) (by decide +kernel)
set_option maxRecDepth 100000 in
theorem mw_239 : Cond.instanceMethod y_Wr_writeMark ∈ lw_g := lw_gin (List.mem_append_right _ (List.mem_of_getElem? (i := 588) rfl)) (by decide +kernel)
set_option maxRecDepth 100000 in
theorem mw_240 : Cond.selects R_Wr y_Wr_writeMark y_Wr_writeMark ∈ lw_g := lw_gin (List.mem_append_left _ (List.mem_of_getElem? (i := 10) rfl)) (by decide +kernel)
theorem d_Wr_writeHead_0 : decode b_Wr_writeHead 0 = .ok (.aload_n 0, 1) := by decide +kernel
theorem d_Wr_writeHead_1 : decode b_Wr_writeHead 1 = .ok (.getfield 23, 3) := by decide +kernel
theorem d_Wr_writeHead_4 : decode b_Wr_writeHead 4 = .ok (.aload_n 1, 1) := by decide +kernel
theorem d_Wr_writeHead_5 : decode b_Wr_writeHead 5 = .ok (.getfield 115, 3) := by decide +kernel
theorem d_Wr_writeHead_8 : decode b_Wr_writeHead 8 = .ok (.aload_n 1, 1) := by decide +kernel
theorem d_Wr_writeHead_9 : decode b_Wr_writeHead 9 = .ok (.getfield 27, 3) := by decide +kernel
theorem d_Wr_writeHead_12 : decode b_Wr_writeHead 12 = .ok (.iconst 1, 1) := by decide +kernel
theorem d_Wr_writeHead_13 : decode b_Wr_writeHead 13 = .ok (.invokevirtual 121, 3) := by decide +kernel
theorem d_Wr_writeHead_16 : decode b_Wr_writeHead 16 = .ok (.istore 4, 2) := by decide +kernel
theorem d_Wr_writeHead_18 : decode b_Wr_writeHead 18 = .ok (.iconst 1, 1) := by decide +kernel
theorem d_Wr_writeHead_19 : decode b_Wr_writeHead 19 = .ok (.istore 5, 2) := by decide +kernel
theorem d_Wr_writeHead_21 : decode b_Wr_writeHead 21 = .ok (.bipush 16, 2) := by decide +kernel
theorem d_Wr_writeHead_23 : decode b_Wr_writeHead 23 = .ok (.istore 6, 2) := by decide +kernel
theorem d_Wr_writeHead_25 : decode b_Wr_writeHead 25 = .ok (.iload 6, 2) := by decide +kernel
theorem d_Wr_writeHead_27 : decode b_Wr_writeHead 27 = .ok (.bipush 19, 2) := by decide +kernel
theorem d_Wr_writeHead_29 : decode b_Wr_writeHead 29 = .ok (.if_icmp .gt 127, 3) := by decide +kernel
theorem d_Wr_writeHead_32 : decode b_Wr_writeHead 32 = .ok (.iload 5, 2) := by decide +kernel
theorem d_Wr_writeHead_34 : decode b_Wr_writeHead 34 = .ok (.iconst 1, 1) := by decide +kernel
theorem d_Wr_writeHead_35 : decode b_Wr_writeHead 35 = .ok (.if_icmp .ne 121, 3) := by decide +kernel
theorem d_Wr_writeHead_38 : decode b_Wr_writeHead 38 = .ok (.iload 6, 2) := by decide +kernel
theorem d_Wr_writeHead_40 : decode b_Wr_writeHead 40 = .ok (.lookupswitch 61 #[(16, 28), (17, 48)], 28) := by decide +kernel
theorem d_Wr_writeHead_68 : decode b_Wr_writeHead 68 = .ok (.aload_n 0, 1) := by decide +kernel
theorem d_Wr_writeHead_69 : decode b_Wr_writeHead 69 = .ok (.getfield 23, 3) := by decide +kernel
theorem d_Wr_writeHead_72 : decode b_Wr_writeHead 72 = .ok (.aload_n 2, 1) := by decide +kernel
theorem d_Wr_writeHead_73 : decode b_Wr_writeHead 73 = .ok (.iload_n 3, 1) := by decide +kernel
theorem d_Wr_writeHead_74 : decode b_Wr_writeHead 74 = .ok (.iload 4, 2) := by decide +kernel
theorem d_Wr_writeHead_76 : decode b_Wr_writeHead 76 = .ok (.aload_n 1, 1) := by decide +kernel
theorem d_Wr_writeHead_77 : decode b_Wr_writeHead 77 = .ok (.getfield 33, 3) := by decide +kernel
theorem d_Wr_writeHead_80 : decode b_Wr_writeHead 80 = .ok (.iconst 0, 1) := by decide +kernel
theorem d_Wr_writeHead_81 : decode b_Wr_writeHead 81 = .ok (.aaload, 1) := by decide +kernel
theorem d_Wr_writeHead_82 : decode b_Wr_writeHead 82 = .ok (.invokevirtual 125, 3) := by decide +kernel
theorem d_Wr_writeHead_85 : decode b_Wr_writeHead 85 = .ok (.goto 44, 3) := by decide +kernel
theorem d_Wr_writeHead_129 : decode b_Wr_writeHead 129 = .ok (.aload_n 2, 1) := by decide +kernel
theorem d_Wr_writeHead_130 : decode b_Wr_writeHead 130 = .ok (.iload_n 3, 1) := by decide +kernel
theorem d_Wr_writeHead_131 : decode b_Wr_writeHead 131 = .ok (.iload 6, 2) := by decide +kernel
theorem d_Wr_writeHead_133 : decode b_Wr_writeHead 133 = .ok (.iadd, 1) := by decide +kernel
theorem d_Wr_writeHead_134 : decode b_Wr_writeHead 134 = .ok (.aload_n 0, 1) := by decide +kernel
theorem d_Wr_writeHead_135 : decode b_Wr_writeHead 135 = .ok (.getfield 23, 3) := by decide +kernel
theorem d_Wr_writeHead_138 : decode b_Wr_writeHead 138 = .ok (.getfield 88, 3) := by decide +kernel
theorem d_Wr_writeHead_141 : decode b_Wr_writeHead 141 = .ok (.aload_n 0, 1) := by decide +kernel
theorem d_Wr_writeHead_142 : decode b_Wr_writeHead 142 = .ok (.getfield 12, 3) := by decide +kernel
theorem d_Wr_writeHead_145 : decode b_Wr_writeHead 145 = .ok (.invokevirtual 92, 3) := by decide +kernel
theorem d_Wr_writeHead_148 : decode b_Wr_writeHead 148 = .ok (.istore 5, 2) := by decide +kernel
theorem d_Wr_writeHead_150 : decode b_Wr_writeHead 150 = .ok (.iinc 6 1, 3) := by decide +kernel
theorem d_Wr_writeHead_153 : decode b_Wr_writeHead 153 = .ok (.goto (-128), 3) := by decide +kernel
theorem d_Wr_writeHead_88 : decode b_Wr_writeHead 88 = .ok (.aload_n 0, 1) := by decide +kernel
theorem d_Wr_writeHead_89 : decode b_Wr_writeHead 89 = .ok (.getfield 23, 3) := by decide +kernel
theorem d_Wr_writeHead_92 : decode b_Wr_writeHead 92 = .ok (.sipush 255, 3) := by decide +kernel
theorem d_Wr_writeHead_95 : decode b_Wr_writeHead 95 = .ok (.invokevirtual 129, 3) := by decide +kernel
theorem d_Wr_writeHead_98 : decode b_Wr_writeHead 98 = .ok (.goto 31, 3) := by decide +kernel
theorem d_Wr_writeHead_101 : decode b_Wr_writeHead 101 = .ok (.aload_n 0, 1) := by decide +kernel
theorem d_Wr_writeHead_102 : decode b_Wr_writeHead 102 = .ok (.getfield 23, 3) := by decide +kernel
theorem d_Wr_writeHead_105 : decode b_Wr_writeHead 105 = .ok (.aload_n 1, 1) := by decide +kernel
theorem d_Wr_writeHead_106 : decode b_Wr_writeHead 106 = .ok (.getfield 115, 3) := by decide +kernel
theorem d_Wr_writeHead_109 : decode b_Wr_writeHead 109 = .ok (.aload_n 1, 1) := by decide +kernel
theorem d_Wr_writeHead_110 : decode b_Wr_writeHead 110 = .ok (.getfield 27, 3) := by decide +kernel
theorem d_Wr_writeHead_113 : decode b_Wr_writeHead 113 = .ok (.iload 6, 2) := by decide +kernel
theorem d_Wr_writeHead_115 : decode b_Wr_writeHead 115 = .ok (.bipush 18, 2) := by decide +kernel
theorem d_Wr_writeHead_117 : decode b_Wr_writeHead 117 = .ok (.if_icmp .ne 7, 3) := by decide +kernel
theorem d_Wr_writeHead_120 : decode b_Wr_writeHead 120 = .ok (.iconst 1, 1) := by decide +kernel
theorem d_Wr_writeHead_121 : decode b_Wr_writeHead 121 = .ok (.goto 4, 3) := by decide +kernel
theorem d_Wr_writeHead_125 : decode b_Wr_writeHead 125 = .ok (.invokevirtual 121, 3) := by decide +kernel
theorem d_Wr_writeHead_128 : decode b_Wr_writeHead 128 = .ok (.pop, 1) := by decide +kernel
theorem d_Wr_writeHead_124 : decode b_Wr_writeHead 124 = .ok (.iconst 0, 1) := by decide +kernel
theorem d_Wr_writeHead_156 : decode b_Wr_writeHead 156 = .ok (.iload 5, 2) := by decide +kernel
theorem d_Wr_writeHead_158 : decode b_Wr_writeHead 158 = .ok (.ireturn, 1) := by decide +kernel
theorem d_Wr_writeDirectories_0 : decode b_Wr_writeDirectories 0 = .ok (.iconst 1, 1) := by decide +kernel
theorem d_Wr_writeDirectories_1 : decode b_Wr_writeDirectories 1 = .ok (.istore_n 3, 1) := by decide +kernel
theorem d_Wr_writeDirectories_2 : decode b_Wr_writeDirectories 2 = .ok (.iconst 0, 1) := by decide +kernel
theorem d_Wr_writeDirectories_3 : decode b_Wr_writeDirectories 3 = .ok (.istore 4, 2) := by decide +kernel
theorem d_Wr_writeDirectories_5 : decode b_Wr_writeDirectories 5 = .ok (.iload 4, 2) := by decide +kernel
theorem d_Wr_writeDirectories_7 : decode b_Wr_writeDirectories 7 = .ok (.aload_n 1, 1) := by decide +kernel
theorem d_Wr_writeDirectories_8 : decode b_Wr_writeDirectories 8 = .ok (.getfield 27, 3) := by decide +kernel
theorem d_Wr_writeDirectories_11 : decode b_Wr_writeDirectories 11 = .ok (.if_icmp .ge 75, 3) := by decide +kernel
theorem d_Wr_writeDirectories_14 : decode b_Wr_writeDirectories 14 = .ok (.iload_n 3, 1) := by decide +kernel
theorem d_Wr_writeDirectories_15 : decode b_Wr_writeDirectories 15 = .ok (.iconst 1, 1) := by decide +kernel
theorem d_Wr_writeDirectories_16 : decode b_Wr_writeDirectories 16 = .ok (.if_icmp .ne 70, 3) := by decide +kernel
theorem d_Wr_writeDirectories_19 : decode b_Wr_writeDirectories 19 = .ok (.aload_n 1, 1) := by decide +kernel
theorem d_Wr_writeDirectories_20 : decode b_Wr_writeDirectories 20 = .ok (.getfield 115, 3) := by decide +kernel
theorem d_Wr_writeDirectories_23 : decode b_Wr_writeDirectories 23 = .ok (.iload 4, 2) := by decide +kernel
theorem d_Wr_writeDirectories_25 : decode b_Wr_writeDirectories 25 = .ok (.aaload, 1) := by decide +kernel
theorem d_Wr_writeDirectories_26 : decode b_Wr_writeDirectories 26 = .ok (.getfield 118, 3) := by decide +kernel
theorem d_Wr_writeDirectories_29 : decode b_Wr_writeDirectories 29 = .ok (.ifCond .eq 51, 3) := by decide +kernel
theorem d_Wr_writeDirectories_32 : decode b_Wr_writeDirectories 32 = .ok (.aload_n 0, 1) := by decide +kernel
theorem d_Wr_writeDirectories_33 : decode b_Wr_writeDirectories 33 = .ok (.getfield 23, 3) := by decide +kernel
theorem d_Wr_writeDirectories_36 : decode b_Wr_writeDirectories 36 = .ok (.aload_n 1, 1) := by decide +kernel
theorem d_Wr_writeDirectories_37 : decode b_Wr_writeDirectories 37 = .ok (.getfield 115, 3) := by decide +kernel
theorem d_Wr_writeDirectories_40 : decode b_Wr_writeDirectories 40 = .ok (.iload 4, 2) := by decide +kernel
theorem d_Wr_writeDirectories_42 : decode b_Wr_writeDirectories 42 = .ok (.aaload, 1) := by decide +kernel
theorem d_Wr_writeDirectories_43 : decode b_Wr_writeDirectories 43 = .ok (.aload_n 1, 1) := by decide +kernel
theorem d_Wr_writeDirectories_44 : decode b_Wr_writeDirectories 44 = .ok (.getfield 115, 3) := by decide +kernel
theorem d_Wr_writeDirectories_47 : decode b_Wr_writeDirectories 47 = .ok (.aload_n 1, 1) := by decide +kernel
theorem d_Wr_writeDirectories_48 : decode b_Wr_writeDirectories 48 = .ok (.getfield 27, 3) := by decide +kernel
theorem d_Wr_writeDirectories_51 : decode b_Wr_writeDirectories 51 = .ok (.invokevirtual 132, 3) := by decide +kernel
theorem d_Wr_writeDirectories_54 : decode b_Wr_writeDirectories 54 = .ok (.aload_n 2, 1) := by decide +kernel
theorem d_Wr_writeDirectories_55 : decode b_Wr_writeDirectories 55 = .ok (.aload_n 1, 1) := by decide +kernel
theorem d_Wr_writeDirectories_56 : decode b_Wr_writeDirectories 56 = .ok (.getfield 115, 3) := by decide +kernel
theorem d_Wr_writeDirectories_59 : decode b_Wr_writeDirectories 59 = .ok (.iload 4, 2) := by decide +kernel
theorem d_Wr_writeDirectories_61 : decode b_Wr_writeDirectories 61 = .ok (.aaload, 1) := by decide +kernel
theorem d_Wr_writeDirectories_62 : decode b_Wr_writeDirectories 62 = .ok (.getfield 57, 3) := by decide +kernel
theorem d_Wr_writeDirectories_65 : decode b_Wr_writeDirectories 65 = .ok (.aload_n 0, 1) := by decide +kernel
theorem d_Wr_writeDirectories_66 : decode b_Wr_writeDirectories 66 = .ok (.getfield 23, 3) := by decide +kernel
theorem d_Wr_writeDirectories_69 : decode b_Wr_writeDirectories 69 = .ok (.getfield 88, 3) := by decide +kernel
theorem d_Wr_writeDirectories_72 : decode b_Wr_writeDirectories 72 = .ok (.aload_n 0, 1) := by decide +kernel
theorem d_Wr_writeDirectories_73 : decode b_Wr_writeDirectories 73 = .ok (.getfield 12, 3) := by decide +kernel
theorem d_Wr_writeDirectories_76 : decode b_Wr_writeDirectories 76 = .ok (.invokevirtual 92, 3) := by decide +kernel
theorem d_Wr_writeDirectories_79 : decode b_Wr_writeDirectories 79 = .ok (.istore_n 3, 1) := by decide +kernel
theorem d_Wr_writeDirectories_80 : decode b_Wr_writeDirectories 80 = .ok (.iinc 4 1, 3) := by decide +kernel
theorem d_Wr_writeDirectories_83 : decode b_Wr_writeDirectories 83 = .ok (.goto (-78), 3) := by decide +kernel
theorem d_Wr_writeDirectories_86 : decode b_Wr_writeDirectories 86 = .ok (.iload_n 3, 1) := by decide +kernel
theorem d_Wr_writeDirectories_87 : decode b_Wr_writeDirectories 87 = .ok (.ireturn, 1) := by decide +kernel
theorem d_Wr_writeMark_0 : decode b_Wr_writeMark 0 = .ok (.aload_n 0, 1) := by decide +kernel
theorem d_Wr_writeMark_1 : decode b_Wr_writeMark 1 = .ok (.getfield 23, 3) := by decide +kernel
theorem d_Wr_writeMark_4 : decode b_Wr_writeMark 4 = .ok (.iload_n 2, 1) := by decide +kernel
theorem d_Wr_writeMark_5 : decode b_Wr_writeMark 5 = .ok (.iload_n 3, 1) := by decide +kernel
theorem d_Wr_writeMark_6 : decode b_Wr_writeMark 6 = .ok (.invokevirtual 136, 3) := by decide +kernel
theorem d_Wr_writeMark_9 : decode b_Wr_writeMark 9 = .ok (.aload_n 1, 1) := by decide +kernel
theorem d_Wr_writeMark_10 : decode b_Wr_writeMark 10 = .ok (.aload_n 1, 1) := by decide +kernel
theorem d_Wr_writeMark_11 : decode b_Wr_writeMark 11 = .ok (.getfield 73, 3) := by decide +kernel
theorem d_Wr_writeMark_14 : decode b_Wr_writeMark 14 = .ok (.aload_n 0, 1) := by decide +kernel
theorem d_Wr_writeMark_15 : decode b_Wr_writeMark 15 = .ok (.getfield 23, 3) := by decide +kernel
theorem d_Wr_writeMark_18 : decode b_Wr_writeMark 18 = .ok (.getfield 88, 3) := by decide +kernel
theorem d_Wr_writeMark_21 : decode b_Wr_writeMark 21 = .ok (.aload_n 0, 1) := by decide +kernel
theorem d_Wr_writeMark_22 : decode b_Wr_writeMark 22 = .ok (.getfield 12, 3) := by decide +kernel
theorem d_Wr_writeMark_25 : decode b_Wr_writeMark 25 = .ok (.invokevirtual 92, 3) := by decide +kernel
theorem d_Wr_writeMark_28 : decode b_Wr_writeMark 28 = .ok (.ireturn, 1) := by decide +kernel
theorem d_Wr_writeSession_0 : decode b_Wr_writeSession 0 = .ok (.aload_n 1, 1) := by decide +kernel
theorem d_Wr_writeSession_1 : decode b_Wr_writeSession 1 = .ok (.invokevirtual 96, 3) := by decide +kernel
theorem d_Wr_writeSession_4 : decode b_Wr_writeSession 4 = .ok (.iconst 0, 1) := by decide +kernel
theorem d_Wr_writeSession_5 : decode b_Wr_writeSession 5 = .ok (.istore 4, 2) := by decide +kernel
theorem d_Wr_writeSession_7 : decode b_Wr_writeSession 7 = .ok (.iload 4, 2) := by decide +kernel
theorem d_Wr_writeSession_9 : decode b_Wr_writeSession 9 = .ok (.aload_n 2, 1) := by decide +kernel
theorem d_Wr_writeSession_10 : decode b_Wr_writeSession 10 = .ok (.getfield 67, 3) := by decide +kernel
theorem d_Wr_writeSession_13 : decode b_Wr_writeSession 13 = .ok (.arraylength, 1) := by decide +kernel
theorem d_Wr_writeSession_14 : decode b_Wr_writeSession 14 = .ok (.if_icmp .gt 95, 3) := by decide +kernel
theorem d_Wr_writeSession_17 : decode b_Wr_writeSession 17 = .ok (.aload_n 2, 1) := by decide +kernel
theorem d_Wr_writeSession_18 : decode b_Wr_writeSession 18 = .ok (.getfield 73, 3) := by decide +kernel
theorem d_Wr_writeSession_21 : decode b_Wr_writeSession 21 = .ok (.istore 5, 2) := by decide +kernel
theorem d_Wr_writeSession_23 : decode b_Wr_writeSession 23 = .ok (.aload_n 0, 1) := by decide +kernel
theorem d_Wr_writeSession_24 : decode b_Wr_writeSession 24 = .ok (.aload_n 1, 1) := by decide +kernel
theorem d_Wr_writeSession_25 : decode b_Wr_writeSession 25 = .ok (.iload 5, 2) := by decide +kernel
theorem d_Wr_writeSession_27 : decode b_Wr_writeSession 27 = .ok (.bipush 20, 2) := by decide +kernel
theorem d_Wr_writeSession_29 : decode b_Wr_writeSession 29 = .ok (.iadd, 1) := by decide +kernel
theorem d_Wr_writeSession_30 : decode b_Wr_writeSession 30 = .ok (.invokevirtual 99, 3) := by decide +kernel
theorem d_Wr_writeSession_33 : decode b_Wr_writeSession 33 = .ok (.istore 6, 2) := by decide +kernel
theorem d_Wr_writeSession_35 : decode b_Wr_writeSession 35 = .ok (.aload_n 2, 1) := by decide +kernel
theorem d_Wr_writeSession_36 : decode b_Wr_writeSession 36 = .ok (.iload 5, 2) := by decide +kernel
theorem d_Wr_writeSession_38 : decode b_Wr_writeSession 38 = .ok (.bipush 20, 2) := by decide +kernel
theorem d_Wr_writeSession_40 : decode b_Wr_writeSession 40 = .ok (.iload 6, 2) := by decide +kernel
theorem d_Wr_writeSession_42 : decode b_Wr_writeSession 42 = .ok (.iadd, 1) := by decide +kernel
theorem d_Wr_writeSession_43 : decode b_Wr_writeSession 43 = .ok (.iconst 1, 1) := by decide +kernel
theorem d_Wr_writeSession_44 : decode b_Wr_writeSession 44 = .ok (.iadd, 1) := by decide +kernel
theorem d_Wr_writeSession_45 : decode b_Wr_writeSession 45 = .ok (.invokevirtual 76, 3) := by decide +kernel
theorem d_Wr_writeSession_48 : decode b_Wr_writeSession 48 = .ok (.ifCond .ne 6, 3) := by decide +kernel
theorem d_Wr_writeSession_54 : decode b_Wr_writeSession 54 = .ok (.aload_n 0, 1) := by decide +kernel
theorem d_Wr_writeSession_55 : decode b_Wr_writeSession 55 = .ok (.aload_n 1, 1) := by decide +kernel
theorem d_Wr_writeSession_56 : decode b_Wr_writeSession 56 = .ok (.aload_n 2, 1) := by decide +kernel
theorem d_Wr_writeSession_57 : decode b_Wr_writeSession 57 = .ok (.iload 5, 2) := by decide +kernel
theorem d_Wr_writeSession_59 : decode b_Wr_writeSession 59 = .ok (.invokevirtual 103, 3) := by decide +kernel
theorem d_Wr_writeSession_62 : decode b_Wr_writeSession 62 = .ok (.istore 7, 2) := by decide +kernel
theorem d_Wr_writeSession_64 : decode b_Wr_writeSession 64 = .ok (.iload 7, 2) := by decide +kernel
theorem d_Wr_writeSession_66 : decode b_Wr_writeSession 66 = .ok (.iconst 1, 1) := by decide +kernel
theorem d_Wr_writeSession_67 : decode b_Wr_writeSession 67 = .ok (.if_icmp .ne 11, 3) := by decide +kernel
theorem d_Wr_writeSession_70 : decode b_Wr_writeSession 70 = .ok (.aload_n 0, 1) := by decide +kernel
theorem d_Wr_writeSession_71 : decode b_Wr_writeSession 71 = .ok (.aload_n 1, 1) := by decide +kernel
theorem d_Wr_writeSession_72 : decode b_Wr_writeSession 72 = .ok (.aload_n 2, 1) := by decide +kernel
theorem d_Wr_writeSession_73 : decode b_Wr_writeSession 73 = .ok (.invokevirtual 107, 3) := by decide +kernel
theorem d_Wr_writeSession_76 : decode b_Wr_writeSession 76 = .ok (.istore 7, 2) := by decide +kernel
theorem d_Wr_writeSession_78 : decode b_Wr_writeSession 78 = .ok (.iload 7, 2) := by decide +kernel
theorem d_Wr_writeSession_80 : decode b_Wr_writeSession 80 = .ok (.iconst 1, 1) := by decide +kernel
theorem d_Wr_writeSession_81 : decode b_Wr_writeSession 81 = .ok (.if_icmp .ne 13, 3) := by decide +kernel
theorem d_Wr_writeSession_84 : decode b_Wr_writeSession 84 = .ok (.aload_n 0, 1) := by decide +kernel
theorem d_Wr_writeSession_85 : decode b_Wr_writeSession 85 = .ok (.aload_n 2, 1) := by decide +kernel
theorem d_Wr_writeSession_86 : decode b_Wr_writeSession 86 = .ok (.iload 5, 2) := by decide +kernel
theorem d_Wr_writeSession_88 : decode b_Wr_writeSession 88 = .ok (.iload_n 3, 1) := by decide +kernel
theorem d_Wr_writeSession_89 : decode b_Wr_writeSession 89 = .ok (.invokevirtual 111, 3) := by decide +kernel
theorem d_Wr_writeSession_92 : decode b_Wr_writeSession 92 = .ok (.istore 7, 2) := by decide +kernel
theorem d_Wr_writeSession_94 : decode b_Wr_writeSession 94 = .ok (.iload 7, 2) := by decide +kernel
theorem d_Wr_writeSession_96 : decode b_Wr_writeSession 96 = .ok (.iconst 2, 1) := by decide +kernel
theorem d_Wr_writeSession_97 : decode b_Wr_writeSession 97 = .ok (.if_icmp .eq 6, 3) := by decide +kernel
theorem d_Wr_writeSession_100 : decode b_Wr_writeSession 100 = .ok (.iload 7, 2) := by decide +kernel
theorem d_Wr_writeSession_102 : decode b_Wr_writeSession 102 = .ok (.ireturn, 1) := by decide +kernel
theorem rmz22 {n : Nat} (h40 : 40 ≤ n) (h : n ≤ 200) : (0 : Int32) ≤ nI n - (20 + (0 + 1) + 1) := by
  rw [show (20 + (0 + 1) + 1 : Int32) = nI 22 by decide, pk_sub (by omega), Int32.le_iff_toInt_le, nI_toInt (by omega), Int32.toInt_zero]
  omega
theorem rmz0 {n : Nat} (h40 : 40 ≤ n) (h : n ≤ 200) : ¬ nI n < (0 : Int32) := nI_pos (by omega)

set_option maxHeartbeats 4000000 in
set_option maxRecDepth 100000 in
theorem c_Writer_head (l : Launch) (D : va_G) (t : Nat → ClassId) (G : Heap) (ak av : Nat → Nat) (h : hM) (wr pg pb ns sl od rt md sa su n : Nat) (fs g fa : Nat → Option Nat) (sc np sp : Int32) (f_wr : h wr = some (.inr (7, [.ref su, .ref pg]))) (f_pg : h pg = some (.inr (3, [.ref pb]))) (f_ns : h ns = some (.inr (2, [.ref sl, .ref od, .int 1, .int 1]))) (f_sl : h sl = some (.inl ((t 4), 30, .inr (.inr (.inr (.inr fs)))))) (f_od : h od = some (.inl ((t 4), 30, .inr (.inr (.inr (.inr g)))))) (f_rt : h rt = some (.inr (1, [.int 0, .null, .int 1, .long 0, .int 0, .int 0, .int 0, .int 0, .int 0, .int sc, .int np]))) (f_md : h md = some (.inr (0, [.ref sa, .int (nI 0)]))) (f_sa : h sa = some (.inl ((t 5), n, .inr (.inr (.inr (.inr fa)))))) (f_su : h su = some (.inr (4, [.int (-1), .int 0, .int sp]))) (hpb : pgF t h pb 2048) (hf0 : fs 0 = some rt) (hg0 : g 0 = some rt) (hrow : rowP (.inr (6, [.int 0, .int 0, .null])) fa 0 n h) (hn40 : 40 ≤ n) (hn : n ≤ 200) : Met l y_Wr_writeHead (.code y_Wr_writeHead b_Wr_writeHead 7 (some .int) :: lw_g) { frames := 7, cells := 4, slots := 8192, locals := 153 } (hP (kE D t G ak av) D vwCl G h [.ref wr, .ref ns, .ref md, .int 0]) (hQi D vwCl G (fun r h' => r = 1 ∧ kx (.inr (6, [.int 0, .int 0, .null])) [pb, rt, md, su] h h' ∧ rowP (.inr (6, [.int 0, .int 0, .null])) fa (19 + 1) n h' ∧ h' rt = some (.inr (1, [.int 0, .null, .int 1, .long 0, .int 0, .int 0, .int 0, .int 0, .int 0, .int sc, .int (0 + 1)])) ∧ h' md = some (.inr (0, [.ref sa, .int (nI (19 + 1))])) ∧ h' su = some (.inr (4, [.int (-1), .int 0, .int (sp + 1 + 1 + 1 + 1)])) ∧ pgF t h' pb 2048)) 4 8192 (fun q => G.size ≤ q) := by
  refine Met.ofW (cc := b_Wr_writeHead) (maxL := 7) (ret := (some .int)) (by decide) rfl ?_
  intro p e s m args below meth c s₁ Bd hml hv
  obtain ⟨ha, hE, hH⟩ := hv
  have hx := Bd.exec
  have hb := Bd.bytes
  have hr := Bd.returns
  have hts : ∀ w ∈ lw_g, w.before args s = true := fun w hw => atoms_spec (ws := (.code y_Wr_writeHead b_Wr_writeHead 7 (some .int) :: lw_g)) Bd.pre w (List.mem_cons_of_mem _ hw)
  have hown : s.vm.findClass R_Wr = some m.cls := findClass_of_methodNamed Bd.named
  have hlocks := Bd.notSynchronized
  have hK := hE.1
  have hH0 := hH
  have hLo : hLc G.size [] := hLc_nil
  have hz : s.heap.size ≤ s.heap.size := Nat.le_refl _
  have hkp : kx (.inr (6, [.int 0, .int 0, .null])) [pb, rt, md, su] h h := kx_rf
  have hl := lv_entry [.ref wr, .ref ns, .ref md, .int 0] (n := 7) (Nat.le_of_ble_eq_true rfl)
  rw [show entryFrame m args 7 = F0 m 0 ((lg_sl [.ref wr, .ref ns, .ref md, .int 0] ++ List.replicate (7 - (lg_sl [.ref wr, .ref ns, .ref md, .int 0]).length) Slot.unset).toArray) [] from (by rw [ha]; exact lg_entry_eq m [.ref wr, .ref ns, .ref md, .int 0] 7)]
  generalize (lg_sl [.ref wr, .ref ns, .ref md, .int 0] ++ List.replicate (7 - (lg_sl [.ref wr, .ref ns, .ref md, .int 0]).length) Slot.unset).toArray = ls at hl ⊢
  have hl : lv_has ls 7 [(0, .ref wr), (1, .ref ns), (2, .ref md), (3, .int 0)] := hl
  obtain ⟨f, hfit, f_pb⟩ := hpb
  refine lv_aload_n hx hb d_Wr_writeHead_0 rfl (lv_at hl 0 rfl) ?_
  refine hm_get (ci := 7) (v := .ref pg) (C := R_Wr) (T := F_Wr) (N := 2) hx hb hts ig_Wr hown hK hH f_wr rfl 1 (by decide) (hts _ mw_56) (fun _ h9 => h9) rfl d_Wr_writeHead_1 ?_
  refine lv_aload_n hx hb d_Wr_writeHead_4 rfl (lv_at hl 1 rfl) ?_
  refine hm_get (ci := 2) (v := .ref od) (C := R_Ns) (T := F_Ns) (N := 4) hx hb hts ig_Ns hown hK hH f_ns rfl 1 (by decide) (hts _ mw_181) (fun _ h9 => h9) rfl d_Wr_writeHead_5 ?_
  refine lv_aload_n hx hb d_Wr_writeHead_8 rfl (lv_at hl 1 rfl) ?_
  refine hm_get (ci := 2) (v := .int 1) (C := R_Ns) (T := F_Ns) (N := 4) hx hb hts ig_Ns hown hK hH f_ns rfl 2 (by decide) (hts _ mw_180) (fun _ h9 => h9) rfl d_Wr_writeHead_9 ?_
  refine lv_iconst (v := 1) hx hb d_Wr_writeHead_12 (by decide) ?_
  refine hm_calli (va_runV (As := [.ref od, .int 1, .int 1]) (b := pg) (rest := []) ⟨hx, hb, hml, hown, hts⟩ (c_Page_pathtable l D t G ak av h pg pb od rt g 1 sc np f_pg ⟨f, hfit, f_pb⟩ f_od f_rt hg0) ⟨cw9B 3 hts mw_191 mw_192 mw_52 rfl rfl (by decide +kernel) ⟨Nat.le_of_ble_eq_true rfl, Nat.le_of_ble_eq_true rfl⟩, hts _ mw_193, hts _ mw_194⟩ (hP_V (q := (R_Pg, F_Pg, 1)) kE_ok hE hK hH f_pg rfl) rfl rfl hl.1 rfl (lv_room (Nat.le_of_ble_eq_true rfl)) d_Wr_writeHead_13 ⟨Nat.le_of_ble_eq_true rfl, Nat.le_of_ble_eq_true rfl⟩) hLo (fun r1 h2 H3 locs hp5 hH z4 hLo => ?_)
  have hz : s.heap.size ≤ H3.size := Nat.le_trans hz z4
  obtain ⟨rfl, hk9, hr9, f, hfit, f_pb2⟩ := hp5
  have hrow : rowP (.inr (6, [.int 0, .int 0, .null])) fa 0 n h2 := rowP_kp hrow hk9 (List.forall_mem_cons.mpr ⟨by rw [f_pb]; simp, List.forall_mem_cons.mpr ⟨by rw [f_rt]; simp, List.forall_mem_nil _⟩⟩)
  have f_wr : h2 wr = some (.inr (7, [.ref su, .ref pg])) := kp_at hk9 f_wr (nmc (Ne.symm (h_neA f_pb f_wr)) (nmc (h_neC f_wr f_rt (by decide)) nm0))
  have f_pg : h2 pg = some (.inr (3, [.ref pb])) := kp_at hk9 f_pg (nmc (Ne.symm (h_neA f_pb f_pg)) (nmc (h_neC f_pg f_rt (by decide)) nm0))
  have f_ns : h2 ns = some (.inr (2, [.ref sl, .ref od, .int 1, .int 1])) := kp_at hk9 f_ns (nmc (Ne.symm (h_neA f_pb f_ns)) (nmc (h_neC f_ns f_rt (by decide)) nm0))
  have f_sl : h2 sl = some (.inl ((t 4), 30, .inr (.inr (.inr (.inr fs))))) := kp_at hk9 f_sl (nmc (h_neK (k1 := 4) (k2 := 0) f_sl f_pb rfl rfl (by decide)) (nmc (h_neA f_sl f_rt) nm0))
  have f_od : h2 od = some (.inl ((t 4), 30, .inr (.inr (.inr (.inr g))))) := kp_at hk9 f_od (nmc (h_neK (k1 := 4) (k2 := 0) f_od f_pb rfl rfl (by decide)) (nmc (h_neA f_od f_rt) nm0))
  have f_md : h2 md = some (.inr (0, [.ref sa, .int (nI 0)])) := kp_at hk9 f_md (nmc (Ne.symm (h_neA f_pb f_md)) (nmc (h_neC f_md f_rt (by decide)) nm0))
  have f_sa : h2 sa = some (.inl ((t 5), n, .inr (.inr (.inr (.inr fa))))) := kp_at hk9 f_sa (nmc (h_neK (k1 := 4) (k2 := 0) f_sa f_pb rfl rfl (by decide)) (nmc (h_neA f_sa f_rt) nm0))
  have f_su : h2 su = some (.inr (4, [.int (-1), .int 0, .int sp])) := kp_at hk9 f_su (nmc (Ne.symm (h_neA f_pb f_su)) (nmc (h_neC f_su f_rt (by decide)) nm0))
  have hkp : kx (.inr (6, [.int 0, .int 0, .null])) [pb, rt, md, su] h h2 := kx_trp hkp hk9 (List.forall_mem_cons.mpr ⟨Or.inl (by simp), List.forall_mem_cons.mpr ⟨Or.inl (by simp), List.forall_mem_nil _⟩⟩)
  have f_pb : h2 pb = some (.inl ((t 0), 2048, .inl f)) := f_pb2
  have f_rt : h2 rt = some (.inr (1, [.int 0, .null, .int 1, .long 0, .int 0, .int 0, .int 0, .int 0, .int 0, .int sc, .int (0 + 1)])) := hr9
  refine lv_istore (lv' := [(4, .int 10), (0, .ref wr), (1, .ref ns), (2, .ref md), (3, .int 0)]) hx hb d_Wr_writeHead_16 hl (by decide) rfl (fun ls hl => ?_)
  refine lv_iconst (v := 1) hx hb d_Wr_writeHead_18 (by decide) ?_
  refine lv_istore (lv' := [(5, .int 1), (4, .int 10), (0, .ref wr), (1, .ref ns), (2, .ref md), (3, .int 0)]) hx hb d_Wr_writeHead_19 hl (by decide) rfl (fun ls hl => ?_)
  refine lv_bipush (v := 16) hx hb d_Wr_writeHead_21 (by decide) ?_
  refine lv_istore (lv' := [(6, .int 16), (5, .int 1), (4, .int 10), (0, .ref wr), (1, .ref ns), (2, .ref md), (3, .int 0)]) hx hb d_Wr_writeHead_23 hl (by decide) rfl (fun ls hl => ?_)
  refine lv_iload hx hb d_Wr_writeHead_25 (lv_at hl 0 rfl) ?_
  refine lv_bipush (v := 19) hx hb d_Wr_writeHead_27 (by decide) ?_
  refine lv_icmp_gt (tgt := 156) hx hb d_Wr_writeHead_29 (by decide) (fun hc6 => absurd hc6 (by decide)) (fun hc6 => ?_)
  refine lv_iload hx hb d_Wr_writeHead_32 (lv_at hl 1 rfl) ?_
  refine lv_iconst (v := 1) hx hb d_Wr_writeHead_34 (by decide) ?_
  refine lv_icmp_ne (tgt := 156) hx hb d_Wr_writeHead_35 (by decide) (fun hc7 => absurd rfl hc7) (fun hc7 => ?_)
  refine lv_iload hx hb d_Wr_writeHead_38 (lv_at hl 0 rfl) ?_
  refine lv_lookup (x := 16) (off := 28) (tgt := 68) hx hb d_Wr_writeHead_40 (by decide) (by decide) (by decide) ?_
  refine lv_aload_n hx hb d_Wr_writeHead_68 rfl (lv_at hl 3 rfl) ?_
  refine hm_get (ci := 7) (v := .ref pg) (C := R_Wr) (T := F_Wr) (N := 2) hx hb hts ig_Wr hown hK hH f_wr rfl 1 (by decide) (hts _ mw_56) (fun _ h9 => h9) rfl d_Wr_writeHead_69 ?_
  refine lv_aload_n hx hb d_Wr_writeHead_72 rfl (lv_at hl 5 rfl) ?_
  refine lv_iload_n hx hb d_Wr_writeHead_73 rfl (lv_at hl 6 rfl) ?_
  refine lv_iload hx hb d_Wr_writeHead_74 (lv_at hl 2 rfl) ?_
  refine lv_aload_n hx hb d_Wr_writeHead_76 rfl (lv_at hl 4 rfl) ?_
  refine hm_get (ci := 2) (v := .ref sl) (C := R_Ns) (T := F_Ns) (N := 4) hx hb hts ig_Ns hown hK hH f_ns rfl 0 (by decide) (hts _ mw_195) (fun _ h9 => h9) rfl d_Wr_writeHead_77 ?_
  refine lv_iconst (v := 0) hx hb d_Wr_writeHead_80 (by decide) ?_
  refine hj_aald (v := .ref rt) hx hb hK hH 4 f_sl (C := R_No) rfl 0 (by decide) (by decide) (by decide) (by rw [hf0]; rfl) d_Wr_writeHead_81 ?_
  refine hm_callv (va_runV (As := [.ref md, .int 0, .int 10, .ref rt]) (b := pg) (rest := []) ⟨hx, hb, hml, hown, hts⟩ (c_Page_descriptor l D t G ak av h2 pg pb md sa rt n 0 fa 0 10 sc (0 + 1) f_pg ⟨f, hfit, f_pb⟩ f_md f_sa f_rt) ⟨cw9B 4 hts mw_196 mw_197 mw_52 rfl rfl (by decide +kernel) ⟨Nat.le_of_ble_eq_true rfl, Nat.le_of_ble_eq_true rfl⟩, hts _ mw_198, hts _ mw_199⟩ (hP_V (q := (R_Pg, F_Pg, 1)) kE_ok hE hK hH f_pg rfl) rfl rfl hl.1 rfl (lv_room (Nat.le_of_ble_eq_true rfl)) d_Wr_writeHead_82 ⟨Nat.le_of_ble_eq_true rfl, Nat.le_of_ble_eq_true rfl⟩) hLo (fun h8 H9 locs hp11 hH z10 hLo => ?_)
  have hz : s.heap.size ≤ H9.size := Nat.le_trans hz z10
  obtain ⟨hk9, f, hfit, f_pb2⟩ := hp11
  have hrow : rowP (.inr (6, [.int 0, .int 0, .null])) fa 0 n h8 := rowP_kp hrow hk9 (List.forall_mem_cons.mpr ⟨by rw [f_pb]; simp, List.forall_mem_nil _⟩)
  have f_wr : h8 wr = some (.inr (7, [.ref su, .ref pg])) := kp_at hk9 f_wr (nmc (Ne.symm (h_neA f_pb f_wr)) nm0)
  have f_pg : h8 pg = some (.inr (3, [.ref pb])) := kp_at hk9 f_pg (nmc (Ne.symm (h_neA f_pb f_pg)) nm0)
  have f_ns : h8 ns = some (.inr (2, [.ref sl, .ref od, .int 1, .int 1])) := kp_at hk9 f_ns (nmc (Ne.symm (h_neA f_pb f_ns)) nm0)
  have f_sl : h8 sl = some (.inl ((t 4), 30, .inr (.inr (.inr (.inr fs))))) := kp_at hk9 f_sl (nmc (h_neK (k1 := 4) (k2 := 0) f_sl f_pb rfl rfl (by decide)) nm0)
  have f_od : h8 od = some (.inl ((t 4), 30, .inr (.inr (.inr (.inr g))))) := kp_at hk9 f_od (nmc (h_neK (k1 := 4) (k2 := 0) f_od f_pb rfl rfl (by decide)) nm0)
  have f_rt : h8 rt = some (.inr (1, [.int 0, .null, .int 1, .long 0, .int 0, .int 0, .int 0, .int 0, .int 0, .int sc, .int (0 + 1)])) := kp_at hk9 f_rt (nmc (Ne.symm (h_neA f_pb f_rt)) nm0)
  have f_md : h8 md = some (.inr (0, [.ref sa, .int (nI 0)])) := kp_at hk9 f_md (nmc (Ne.symm (h_neA f_pb f_md)) nm0)
  have f_sa : h8 sa = some (.inl ((t 5), n, .inr (.inr (.inr (.inr fa))))) := kp_at hk9 f_sa (nmc (h_neK (k1 := 4) (k2 := 0) f_sa f_pb rfl rfl (by decide)) nm0)
  have f_su : h8 su = some (.inr (4, [.int (-1), .int 0, .int sp])) := kp_at hk9 f_su (nmc (Ne.symm (h_neA f_pb f_su)) nm0)
  have hkp : kx (.inr (6, [.int 0, .int 0, .null])) [pb, rt, md, su] h h8 := kx_trp hkp hk9 (List.forall_mem_cons.mpr ⟨Or.inl (by simp), List.forall_mem_nil _⟩)
  have f_pb : h8 pb = some (.inl ((t 0), 2048, .inl f)) := f_pb2
  refine lv_goto (tgt := 129) hx hb d_Wr_writeHead_85 (by decide) ?_
  refine lv_aload_n hx hb d_Wr_writeHead_129 rfl (lv_at hl 5 rfl) ?_
  refine lv_iload_n hx hb d_Wr_writeHead_130 rfl (lv_at hl 6 rfl) ?_
  refine lv_iload hx hb d_Wr_writeHead_131 (lv_at hl 0 rfl) ?_
  refine lv_iadd hx hb d_Wr_writeHead_133 ?_
  refine lv_topi (fun v12 e13 => ?_)
  obtain rfl : v12 = nI 16 := e13.trans (by decide)
  refine lv_aload_n hx hb d_Wr_writeHead_134 rfl (lv_at hl 3 rfl) ?_
  refine hm_get (ci := 7) (v := .ref pg) (C := R_Wr) (T := F_Wr) (N := 2) hx hb hts ig_Wr hown hK hH f_wr rfl 1 (by decide) (hts _ mw_56) (fun _ h9 => h9) rfl d_Wr_writeHead_135 ?_
  refine hm_get (ci := 3) (v := .ref pb) (C := R_Pg) (T := F_Pg) (N := 1) hx hb hts ig_Pg hown hK hH f_pg rfl 0 (by decide) (hts _ mw_200) (fun _ h9 => h9) rfl d_Wr_writeHead_138 ?_
  refine lv_aload_n hx hb d_Wr_writeHead_141 rfl (lv_at hl 3 rfl) ?_
  refine hm_get (ci := 7) (v := .ref su) (C := R_Wr) (T := F_Wr) (N := 2) hx hb hts ig_Wr hown hK hH f_wr rfl 0 (by decide) (hts _ mw_49) (fun _ h9 => h9) rfl d_Wr_writeHead_142 ?_
  refine hm_calli (va_runV (As := [.int (nI 16), .ref pb, .ref su]) (b := md) (rest := []) ⟨hx, hb, hml, hown, hts⟩ (c_Medium_write l D t G ak av h8 md sa pb su n 16 0 fa sp f_md f_sa f_su ⟨f, hfit, f_pb⟩ (rowP_mono hrow (by decide)) (by omega) (by decide) (by omega)) ⟨cw9B 3 hts mw_201 mw_202 mw_163 rfl rfl (by decide +kernel) ⟨Nat.le_of_ble_eq_true rfl, Nat.le_of_ble_eq_true rfl⟩, hts _ mw_203, hts _ mw_204⟩ (hP_V (q := (R_Me, F_Me, 2)) kE_ok hE hK hH f_md rfl) rfl rfl hl.1 rfl (lv_room (Nat.le_of_ble_eq_true rfl)) d_Wr_writeHead_145 ⟨Nat.le_of_ble_eq_true rfl, Nat.le_of_ble_eq_true rfl⟩) hLo (fun r14 h15 H16 locs hp18 hH z17 hLo => ?_)
  have hz : s.heap.size ≤ H16.size := Nat.le_trans hz z17
  obtain ⟨rfl, hrow, hk9, hm9, hs9⟩ := hp18
  have f_wr : h15 wr = some (.inr (7, [.ref su, .ref pg])) := kx_at hk9 f_wr (nmc (h_neC f_wr f_md (by decide)) (nmc (h_neC f_wr f_su (by decide)) nm0)) (by simp)
  have f_pg : h15 pg = some (.inr (3, [.ref pb])) := kx_at hk9 f_pg (nmc (h_neC f_pg f_md (by decide)) (nmc (h_neC f_pg f_su (by decide)) nm0)) (by simp)
  have f_ns : h15 ns = some (.inr (2, [.ref sl, .ref od, .int 1, .int 1])) := kx_at hk9 f_ns (nmc (h_neC f_ns f_md (by decide)) (nmc (h_neC f_ns f_su (by decide)) nm0)) (by simp)
  have f_sl : h15 sl = some (.inl ((t 4), 30, .inr (.inr (.inr (.inr fs))))) := kx_at hk9 f_sl (nmc (h_neA f_sl f_md) (nmc (h_neA f_sl f_su) nm0)) (by simp)
  have f_od : h15 od = some (.inl ((t 4), 30, .inr (.inr (.inr (.inr g))))) := kx_at hk9 f_od (nmc (h_neA f_od f_md) (nmc (h_neA f_od f_su) nm0)) (by simp)
  have f_rt : h15 rt = some (.inr (1, [.int 0, .null, .int 1, .long 0, .int 0, .int 0, .int 0, .int 0, .int 0, .int sc, .int (0 + 1)])) := kx_at hk9 f_rt (nmc (h_neC f_rt f_md (by decide)) (nmc (h_neC f_rt f_su (by decide)) nm0)) (by simp)
  have f_sa : h15 sa = some (.inl ((t 5), n, .inr (.inr (.inr (.inr fa))))) := kx_at hk9 f_sa (nmc (h_neA f_sa f_md) (nmc (h_neA f_sa f_su) nm0)) (by simp)
  have f_pb : h15 pb = some (.inl ((t 0), 2048, .inl f)) := kx_at hk9 f_pb (nmc (h_neA f_pb f_md) (nmc (h_neA f_pb f_su) nm0)) (by simp)
  have hkp : kx (.inr (6, [.int 0, .int 0, .null])) [pb, rt, md, su] h h15 := kx_trx hkp hk9 (List.forall_mem_cons.mpr ⟨Or.inl (by simp), List.forall_mem_cons.mpr ⟨Or.inl (by simp), List.forall_mem_nil _⟩⟩)
  have f_md : h15 md = some (.inr (0, [.ref sa, .int (nI (16 + 1))])) := hm9
  have f_su : h15 su = some (.inr (4, [.int (-1), .int 0, .int (sp + 1)])) := hs9
  refine lv_istore (lv' := [(5, .int 1), (6, .int 16), (4, .int 10), (0, .ref wr), (1, .ref ns), (2, .ref md), (3, .int 0)]) hx hb d_Wr_writeHead_148 hl (by decide) rfl (fun ls hl => ?_)
  refine lv_iinc (v := 16 + 1) (lv' := [(6, .int (16 + 1)), (5, .int 1), (4, .int 10), (0, .ref wr), (1, .ref ns), (2, .ref md), (3, .int 0)]) hx hb d_Wr_writeHead_150 hl (k := 1) rfl (by rfl) (by decide) rfl (fun ls hl => ?_)
  refine lv_goto (tgt := 25) hx hb d_Wr_writeHead_153 (by decide) ?_
  refine lv_iload hx hb d_Wr_writeHead_25 (lv_at hl 0 rfl) ?_
  refine lv_bipush (v := 19) hx hb d_Wr_writeHead_27 (by decide) ?_
  refine lv_icmp_gt (tgt := 156) hx hb d_Wr_writeHead_29 (by decide) (fun hc19 => absurd hc19 (by decide)) (fun hc19 => ?_)
  refine lv_iload hx hb d_Wr_writeHead_32 (lv_at hl 1 rfl) ?_
  refine lv_iconst (v := 1) hx hb d_Wr_writeHead_34 (by decide) ?_
  refine lv_icmp_ne (tgt := 156) hx hb d_Wr_writeHead_35 (by decide) (fun hc20 => absurd rfl hc20) (fun hc20 => ?_)
  refine lv_iload hx hb d_Wr_writeHead_38 (lv_at hl 0 rfl) ?_
  refine lv_topi (fun v21 e22 => ?_)
  obtain rfl : v21 = 17 := e22.trans (by decide)
  refine lv_lookup (x := 17) (off := 48) (tgt := 88) hx hb d_Wr_writeHead_40 (by decide) (by decide) (by decide) ?_
  refine lv_aload_n hx hb d_Wr_writeHead_88 rfl (lv_at hl 3 rfl) ?_
  refine hm_get (ci := 7) (v := .ref pg) (C := R_Wr) (T := F_Wr) (N := 2) hx hb hts ig_Wr hown hK hH f_wr rfl 1 (by decide) (hts _ mw_56) (fun _ h9 => h9) rfl d_Wr_writeHead_89 ?_
  refine lv_sipush (v := 255) hx hb d_Wr_writeHead_92 (by decide) ?_
  refine hm_callv (va_runV (As := [.int 255]) (b := pg) (rest := []) ⟨hx, hb, hml, hown, hts⟩ (c_Page_standard l D t G ak av h15 pg pb 255 f_pg ⟨f, hfit, f_pb⟩) ⟨cw9B 1 hts mw_140 mw_205 mw_52 rfl rfl (by decide +kernel) ⟨Nat.le_of_ble_eq_true rfl, Nat.le_of_ble_eq_true rfl⟩, hts _ mw_142, hts _ mw_143⟩ (hP_V (q := (R_Pg, F_Pg, 1)) kE_ok hE hK hH f_pg rfl) rfl rfl hl.1 rfl (lv_room (Nat.le_of_ble_eq_true rfl)) d_Wr_writeHead_95 ⟨Nat.le_of_ble_eq_true rfl, Nat.le_of_ble_eq_true rfl⟩) hLo (fun h23 H24 locs hp26 hH z25 hLo => ?_)
  have hz : s.heap.size ≤ H24.size := Nat.le_trans hz z25
  obtain ⟨hk9, f, hfit, f_pb2⟩ := hp26
  have hrow : rowP (.inr (6, [.int 0, .int 0, .null])) fa (16 + 1) n h23 := rowP_kp hrow hk9 (List.forall_mem_cons.mpr ⟨by rw [f_pb]; simp, List.forall_mem_nil _⟩)
  have f_wr : h23 wr = some (.inr (7, [.ref su, .ref pg])) := kp_at hk9 f_wr (nmc (Ne.symm (h_neA f_pb f_wr)) nm0)
  have f_pg : h23 pg = some (.inr (3, [.ref pb])) := kp_at hk9 f_pg (nmc (Ne.symm (h_neA f_pb f_pg)) nm0)
  have f_ns : h23 ns = some (.inr (2, [.ref sl, .ref od, .int 1, .int 1])) := kp_at hk9 f_ns (nmc (Ne.symm (h_neA f_pb f_ns)) nm0)
  have f_sl : h23 sl = some (.inl ((t 4), 30, .inr (.inr (.inr (.inr fs))))) := kp_at hk9 f_sl (nmc (h_neK (k1 := 4) (k2 := 0) f_sl f_pb rfl rfl (by decide)) nm0)
  have f_od : h23 od = some (.inl ((t 4), 30, .inr (.inr (.inr (.inr g))))) := kp_at hk9 f_od (nmc (h_neK (k1 := 4) (k2 := 0) f_od f_pb rfl rfl (by decide)) nm0)
  have f_rt : h23 rt = some (.inr (1, [.int 0, .null, .int 1, .long 0, .int 0, .int 0, .int 0, .int 0, .int 0, .int sc, .int (0 + 1)])) := kp_at hk9 f_rt (nmc (Ne.symm (h_neA f_pb f_rt)) nm0)
  have f_md : h23 md = some (.inr (0, [.ref sa, .int (nI (16 + 1))])) := kp_at hk9 f_md (nmc (Ne.symm (h_neA f_pb f_md)) nm0)
  have f_sa : h23 sa = some (.inl ((t 5), n, .inr (.inr (.inr (.inr fa))))) := kp_at hk9 f_sa (nmc (h_neK (k1 := 4) (k2 := 0) f_sa f_pb rfl rfl (by decide)) nm0)
  have f_su : h23 su = some (.inr (4, [.int (-1), .int 0, .int (sp + 1)])) := kp_at hk9 f_su (nmc (Ne.symm (h_neA f_pb f_su)) nm0)
  have hkp : kx (.inr (6, [.int 0, .int 0, .null])) [pb, rt, md, su] h h23 := kx_trp hkp hk9 (List.forall_mem_cons.mpr ⟨Or.inl (by simp), List.forall_mem_nil _⟩)
  have f_pb : h23 pb = some (.inl ((t 0), 2048, .inl f)) := f_pb2
  refine lv_goto (tgt := 129) hx hb d_Wr_writeHead_98 (by decide) ?_
  refine lv_aload_n hx hb d_Wr_writeHead_129 rfl (lv_at hl 5 rfl) ?_
  refine lv_iload_n hx hb d_Wr_writeHead_130 rfl (lv_at hl 6 rfl) ?_
  refine lv_iload hx hb d_Wr_writeHead_131 (lv_at hl 0 rfl) ?_
  refine lv_iadd hx hb d_Wr_writeHead_133 ?_
  refine lv_topi (fun v27 e28 => ?_)
  obtain rfl : v27 = nI 17 := e28.trans (by decide)
  refine lv_aload_n hx hb d_Wr_writeHead_134 rfl (lv_at hl 3 rfl) ?_
  refine hm_get (ci := 7) (v := .ref pg) (C := R_Wr) (T := F_Wr) (N := 2) hx hb hts ig_Wr hown hK hH f_wr rfl 1 (by decide) (hts _ mw_56) (fun _ h9 => h9) rfl d_Wr_writeHead_135 ?_
  refine hm_get (ci := 3) (v := .ref pb) (C := R_Pg) (T := F_Pg) (N := 1) hx hb hts ig_Pg hown hK hH f_pg rfl 0 (by decide) (hts _ mw_200) (fun _ h9 => h9) rfl d_Wr_writeHead_138 ?_
  refine lv_aload_n hx hb d_Wr_writeHead_141 rfl (lv_at hl 3 rfl) ?_
  refine hm_get (ci := 7) (v := .ref su) (C := R_Wr) (T := F_Wr) (N := 2) hx hb hts ig_Wr hown hK hH f_wr rfl 0 (by decide) (hts _ mw_49) (fun _ h9 => h9) rfl d_Wr_writeHead_142 ?_
  refine hm_calli (va_runV (As := [.int (nI 17), .ref pb, .ref su]) (b := md) (rest := []) ⟨hx, hb, hml, hown, hts⟩ (c_Medium_write l D t G ak av h23 md sa pb su n 17 (16 + 1) fa (sp + 1) f_md f_sa f_su ⟨f, hfit, f_pb⟩ (rowP_mono hrow (by decide)) (by omega) (by decide) (by omega)) ⟨cw9B 3 hts mw_201 mw_202 mw_163 rfl rfl (by decide +kernel) ⟨Nat.le_of_ble_eq_true rfl, Nat.le_of_ble_eq_true rfl⟩, hts _ mw_203, hts _ mw_204⟩ (hP_V (q := (R_Me, F_Me, 2)) kE_ok hE hK hH f_md rfl) rfl rfl hl.1 rfl (lv_room (Nat.le_of_ble_eq_true rfl)) d_Wr_writeHead_145 ⟨Nat.le_of_ble_eq_true rfl, Nat.le_of_ble_eq_true rfl⟩) hLo (fun r29 h30 H31 locs hp33 hH z32 hLo => ?_)
  have hz : s.heap.size ≤ H31.size := Nat.le_trans hz z32
  obtain ⟨rfl, hrow, hk9, hm9, hs9⟩ := hp33
  have f_wr : h30 wr = some (.inr (7, [.ref su, .ref pg])) := kx_at hk9 f_wr (nmc (h_neC f_wr f_md (by decide)) (nmc (h_neC f_wr f_su (by decide)) nm0)) (by simp)
  have f_pg : h30 pg = some (.inr (3, [.ref pb])) := kx_at hk9 f_pg (nmc (h_neC f_pg f_md (by decide)) (nmc (h_neC f_pg f_su (by decide)) nm0)) (by simp)
  have f_ns : h30 ns = some (.inr (2, [.ref sl, .ref od, .int 1, .int 1])) := kx_at hk9 f_ns (nmc (h_neC f_ns f_md (by decide)) (nmc (h_neC f_ns f_su (by decide)) nm0)) (by simp)
  have f_sl : h30 sl = some (.inl ((t 4), 30, .inr (.inr (.inr (.inr fs))))) := kx_at hk9 f_sl (nmc (h_neA f_sl f_md) (nmc (h_neA f_sl f_su) nm0)) (by simp)
  have f_od : h30 od = some (.inl ((t 4), 30, .inr (.inr (.inr (.inr g))))) := kx_at hk9 f_od (nmc (h_neA f_od f_md) (nmc (h_neA f_od f_su) nm0)) (by simp)
  have f_rt : h30 rt = some (.inr (1, [.int 0, .null, .int 1, .long 0, .int 0, .int 0, .int 0, .int 0, .int 0, .int sc, .int (0 + 1)])) := kx_at hk9 f_rt (nmc (h_neC f_rt f_md (by decide)) (nmc (h_neC f_rt f_su (by decide)) nm0)) (by simp)
  have f_sa : h30 sa = some (.inl ((t 5), n, .inr (.inr (.inr (.inr fa))))) := kx_at hk9 f_sa (nmc (h_neA f_sa f_md) (nmc (h_neA f_sa f_su) nm0)) (by simp)
  have f_pb : h30 pb = some (.inl ((t 0), 2048, .inl f)) := kx_at hk9 f_pb (nmc (h_neA f_pb f_md) (nmc (h_neA f_pb f_su) nm0)) (by simp)
  have hkp : kx (.inr (6, [.int 0, .int 0, .null])) [pb, rt, md, su] h h30 := kx_trx hkp hk9 (List.forall_mem_cons.mpr ⟨Or.inl (by simp), List.forall_mem_cons.mpr ⟨Or.inl (by simp), List.forall_mem_nil _⟩⟩)
  have f_md : h30 md = some (.inr (0, [.ref sa, .int (nI (17 + 1))])) := hm9
  have f_su : h30 su = some (.inr (4, [.int (-1), .int 0, .int (sp + 1 + 1)])) := hs9
  refine lv_istore (lv' := [(5, .int 1), (6, .int (16 + 1)), (4, .int 10), (0, .ref wr), (1, .ref ns), (2, .ref md), (3, .int 0)]) hx hb d_Wr_writeHead_148 hl (by decide) rfl (fun ls hl => ?_)
  refine lv_iinc (v := (16 + 1) + 1) (lv' := [(6, .int ((16 + 1) + 1)), (5, .int 1), (4, .int 10), (0, .ref wr), (1, .ref ns), (2, .ref md), (3, .int 0)]) hx hb d_Wr_writeHead_150 hl (k := 1) rfl (by rfl) (by decide) rfl (fun ls hl => ?_)
  refine lv_goto (tgt := 25) hx hb d_Wr_writeHead_153 (by decide) ?_
  refine lv_iload hx hb d_Wr_writeHead_25 (lv_at hl 0 rfl) ?_
  refine lv_bipush (v := 19) hx hb d_Wr_writeHead_27 (by decide) ?_
  refine lv_icmp_gt (tgt := 156) hx hb d_Wr_writeHead_29 (by decide) (fun hc34 => absurd hc34 (by decide)) (fun hc34 => ?_)
  refine lv_iload hx hb d_Wr_writeHead_32 (lv_at hl 1 rfl) ?_
  refine lv_iconst (v := 1) hx hb d_Wr_writeHead_34 (by decide) ?_
  refine lv_icmp_ne (tgt := 156) hx hb d_Wr_writeHead_35 (by decide) (fun hc35 => absurd rfl hc35) (fun hc35 => ?_)
  refine lv_iload hx hb d_Wr_writeHead_38 (lv_at hl 0 rfl) ?_
  refine lv_topi (fun v36 e37 => ?_)
  obtain rfl : v36 = 18 := e37.trans (by decide)
  refine lv_lookup (x := 18) (off := 61) (tgt := 101) hx hb d_Wr_writeHead_40 (by decide) (by decide) (by decide) ?_
  refine lv_aload_n hx hb d_Wr_writeHead_101 rfl (lv_at hl 3 rfl) ?_
  refine hm_get (ci := 7) (v := .ref pg) (C := R_Wr) (T := F_Wr) (N := 2) hx hb hts ig_Wr hown hK hH f_wr rfl 1 (by decide) (hts _ mw_56) (fun _ h9 => h9) rfl d_Wr_writeHead_102 ?_
  refine lv_aload_n hx hb d_Wr_writeHead_105 rfl (lv_at hl 4 rfl) ?_
  refine hm_get (ci := 2) (v := .ref od) (C := R_Ns) (T := F_Ns) (N := 4) hx hb hts ig_Ns hown hK hH f_ns rfl 1 (by decide) (hts _ mw_181) (fun _ h9 => h9) rfl d_Wr_writeHead_106 ?_
  refine lv_aload_n hx hb d_Wr_writeHead_109 rfl (lv_at hl 4 rfl) ?_
  refine hm_get (ci := 2) (v := .int 1) (C := R_Ns) (T := F_Ns) (N := 4) hx hb hts ig_Ns hown hK hH f_ns rfl 2 (by decide) (hts _ mw_180) (fun _ h9 => h9) rfl d_Wr_writeHead_110 ?_
  refine lv_iload hx hb d_Wr_writeHead_113 (lv_at hl 0 rfl) ?_
  refine lv_bipush (v := 18) hx hb d_Wr_writeHead_115 (by decide) ?_
  refine lv_icmp_ne (tgt := 124) hx hb d_Wr_writeHead_117 (by decide) (fun hc38 => absurd (by decide) hc38) (fun hc38 => ?_)
  refine lv_iconst (v := 1) hx hb d_Wr_writeHead_120 (by decide) ?_
  refine lv_goto (tgt := 125) hx hb d_Wr_writeHead_121 (by decide) ?_
  refine hm_calli (va_runV (As := [.ref od, .int 1, .int 1]) (b := pg) (rest := []) ⟨hx, hb, hml, hown, hts⟩ (c_Page_pathtable l D t G ak av h30 pg pb od rt g 1 sc (0 + 1) f_pg ⟨f, hfit, f_pb⟩ f_od f_rt hg0) ⟨cw9B 3 hts mw_191 mw_192 mw_52 rfl rfl (by decide +kernel) ⟨Nat.le_of_ble_eq_true rfl, Nat.le_of_ble_eq_true rfl⟩, hts _ mw_193, hts _ mw_194⟩ (hP_V (q := (R_Pg, F_Pg, 1)) kE_ok hE hK hH f_pg rfl) rfl rfl hl.1 rfl (lv_room (Nat.le_of_ble_eq_true rfl)) d_Wr_writeHead_125 ⟨Nat.le_of_ble_eq_true rfl, Nat.le_of_ble_eq_true rfl⟩) hLo (fun r39 h40 H41 locs hp43 hH z42 hLo => ?_)
  have hz : s.heap.size ≤ H41.size := Nat.le_trans hz z42
  obtain ⟨rfl, hk9, hr9, f, hfit, f_pb2⟩ := hp43
  have hrow : rowP (.inr (6, [.int 0, .int 0, .null])) fa (17 + 1) n h40 := rowP_kp hrow hk9 (List.forall_mem_cons.mpr ⟨by rw [f_pb]; simp, List.forall_mem_cons.mpr ⟨by rw [f_rt]; simp, List.forall_mem_nil _⟩⟩)
  have f_wr : h40 wr = some (.inr (7, [.ref su, .ref pg])) := kp_at hk9 f_wr (nmc (Ne.symm (h_neA f_pb f_wr)) (nmc (h_neC f_wr f_rt (by decide)) nm0))
  have f_pg : h40 pg = some (.inr (3, [.ref pb])) := kp_at hk9 f_pg (nmc (Ne.symm (h_neA f_pb f_pg)) (nmc (h_neC f_pg f_rt (by decide)) nm0))
  have f_ns : h40 ns = some (.inr (2, [.ref sl, .ref od, .int 1, .int 1])) := kp_at hk9 f_ns (nmc (Ne.symm (h_neA f_pb f_ns)) (nmc (h_neC f_ns f_rt (by decide)) nm0))
  have f_sl : h40 sl = some (.inl ((t 4), 30, .inr (.inr (.inr (.inr fs))))) := kp_at hk9 f_sl (nmc (h_neK (k1 := 4) (k2 := 0) f_sl f_pb rfl rfl (by decide)) (nmc (h_neA f_sl f_rt) nm0))
  have f_od : h40 od = some (.inl ((t 4), 30, .inr (.inr (.inr (.inr g))))) := kp_at hk9 f_od (nmc (h_neK (k1 := 4) (k2 := 0) f_od f_pb rfl rfl (by decide)) (nmc (h_neA f_od f_rt) nm0))
  have f_md : h40 md = some (.inr (0, [.ref sa, .int (nI (17 + 1))])) := kp_at hk9 f_md (nmc (Ne.symm (h_neA f_pb f_md)) (nmc (h_neC f_md f_rt (by decide)) nm0))
  have f_sa : h40 sa = some (.inl ((t 5), n, .inr (.inr (.inr (.inr fa))))) := kp_at hk9 f_sa (nmc (h_neK (k1 := 4) (k2 := 0) f_sa f_pb rfl rfl (by decide)) (nmc (h_neA f_sa f_rt) nm0))
  have f_su : h40 su = some (.inr (4, [.int (-1), .int 0, .int (sp + 1 + 1)])) := kp_at hk9 f_su (nmc (Ne.symm (h_neA f_pb f_su)) (nmc (h_neC f_su f_rt (by decide)) nm0))
  have hkp : kx (.inr (6, [.int 0, .int 0, .null])) [pb, rt, md, su] h h40 := kx_trp hkp hk9 (List.forall_mem_cons.mpr ⟨Or.inl (by simp), List.forall_mem_cons.mpr ⟨Or.inl (by simp), List.forall_mem_nil _⟩⟩)
  have f_pb : h40 pb = some (.inl ((t 0), 2048, .inl f)) := f_pb2
  have f_rt : h40 rt = some (.inr (1, [.int 0, .null, .int 1, .long 0, .int 0, .int 0, .int 0, .int 0, .int 0, .int sc, .int (0 + 1)])) := hr9
  refine lv_pop hx hb d_Wr_writeHead_128 rfl ?_
  refine lv_aload_n hx hb d_Wr_writeHead_129 rfl (lv_at hl 5 rfl) ?_
  refine lv_iload_n hx hb d_Wr_writeHead_130 rfl (lv_at hl 6 rfl) ?_
  refine lv_iload hx hb d_Wr_writeHead_131 (lv_at hl 0 rfl) ?_
  refine lv_iadd hx hb d_Wr_writeHead_133 ?_
  refine lv_topi (fun v44 e45 => ?_)
  obtain rfl : v44 = nI 18 := e45.trans (by decide)
  refine lv_aload_n hx hb d_Wr_writeHead_134 rfl (lv_at hl 3 rfl) ?_
  refine hm_get (ci := 7) (v := .ref pg) (C := R_Wr) (T := F_Wr) (N := 2) hx hb hts ig_Wr hown hK hH f_wr rfl 1 (by decide) (hts _ mw_56) (fun _ h9 => h9) rfl d_Wr_writeHead_135 ?_
  refine hm_get (ci := 3) (v := .ref pb) (C := R_Pg) (T := F_Pg) (N := 1) hx hb hts ig_Pg hown hK hH f_pg rfl 0 (by decide) (hts _ mw_200) (fun _ h9 => h9) rfl d_Wr_writeHead_138 ?_
  refine lv_aload_n hx hb d_Wr_writeHead_141 rfl (lv_at hl 3 rfl) ?_
  refine hm_get (ci := 7) (v := .ref su) (C := R_Wr) (T := F_Wr) (N := 2) hx hb hts ig_Wr hown hK hH f_wr rfl 0 (by decide) (hts _ mw_49) (fun _ h9 => h9) rfl d_Wr_writeHead_142 ?_
  refine hm_calli (va_runV (As := [.int (nI 18), .ref pb, .ref su]) (b := md) (rest := []) ⟨hx, hb, hml, hown, hts⟩ (c_Medium_write l D t G ak av h40 md sa pb su n 18 (17 + 1) fa (sp + 1 + 1) f_md f_sa f_su ⟨f, hfit, f_pb⟩ (rowP_mono hrow (by decide)) (by omega) (by decide) (by omega)) ⟨cw9B 3 hts mw_201 mw_202 mw_163 rfl rfl (by decide +kernel) ⟨Nat.le_of_ble_eq_true rfl, Nat.le_of_ble_eq_true rfl⟩, hts _ mw_203, hts _ mw_204⟩ (hP_V (q := (R_Me, F_Me, 2)) kE_ok hE hK hH f_md rfl) rfl rfl hl.1 rfl (lv_room (Nat.le_of_ble_eq_true rfl)) d_Wr_writeHead_145 ⟨Nat.le_of_ble_eq_true rfl, Nat.le_of_ble_eq_true rfl⟩) hLo (fun r46 h47 H48 locs hp50 hH z49 hLo => ?_)
  have hz : s.heap.size ≤ H48.size := Nat.le_trans hz z49
  obtain ⟨rfl, hrow, hk9, hm9, hs9⟩ := hp50
  have f_wr : h47 wr = some (.inr (7, [.ref su, .ref pg])) := kx_at hk9 f_wr (nmc (h_neC f_wr f_md (by decide)) (nmc (h_neC f_wr f_su (by decide)) nm0)) (by simp)
  have f_pg : h47 pg = some (.inr (3, [.ref pb])) := kx_at hk9 f_pg (nmc (h_neC f_pg f_md (by decide)) (nmc (h_neC f_pg f_su (by decide)) nm0)) (by simp)
  have f_ns : h47 ns = some (.inr (2, [.ref sl, .ref od, .int 1, .int 1])) := kx_at hk9 f_ns (nmc (h_neC f_ns f_md (by decide)) (nmc (h_neC f_ns f_su (by decide)) nm0)) (by simp)
  have f_sl : h47 sl = some (.inl ((t 4), 30, .inr (.inr (.inr (.inr fs))))) := kx_at hk9 f_sl (nmc (h_neA f_sl f_md) (nmc (h_neA f_sl f_su) nm0)) (by simp)
  have f_od : h47 od = some (.inl ((t 4), 30, .inr (.inr (.inr (.inr g))))) := kx_at hk9 f_od (nmc (h_neA f_od f_md) (nmc (h_neA f_od f_su) nm0)) (by simp)
  have f_rt : h47 rt = some (.inr (1, [.int 0, .null, .int 1, .long 0, .int 0, .int 0, .int 0, .int 0, .int 0, .int sc, .int (0 + 1)])) := kx_at hk9 f_rt (nmc (h_neC f_rt f_md (by decide)) (nmc (h_neC f_rt f_su (by decide)) nm0)) (by simp)
  have f_sa : h47 sa = some (.inl ((t 5), n, .inr (.inr (.inr (.inr fa))))) := kx_at hk9 f_sa (nmc (h_neA f_sa f_md) (nmc (h_neA f_sa f_su) nm0)) (by simp)
  have f_pb : h47 pb = some (.inl ((t 0), 2048, .inl f)) := kx_at hk9 f_pb (nmc (h_neA f_pb f_md) (nmc (h_neA f_pb f_su) nm0)) (by simp)
  have hkp : kx (.inr (6, [.int 0, .int 0, .null])) [pb, rt, md, su] h h47 := kx_trx hkp hk9 (List.forall_mem_cons.mpr ⟨Or.inl (by simp), List.forall_mem_cons.mpr ⟨Or.inl (by simp), List.forall_mem_nil _⟩⟩)
  have f_md : h47 md = some (.inr (0, [.ref sa, .int (nI (18 + 1))])) := hm9
  have f_su : h47 su = some (.inr (4, [.int (-1), .int 0, .int (sp + 1 + 1 + 1)])) := hs9
  refine lv_istore (lv' := [(5, .int 1), (6, .int ((16 + 1) + 1)), (4, .int 10), (0, .ref wr), (1, .ref ns), (2, .ref md), (3, .int 0)]) hx hb d_Wr_writeHead_148 hl (by decide) rfl (fun ls hl => ?_)
  refine lv_iinc (v := ((16 + 1) + 1) + 1) (lv' := [(6, .int (((16 + 1) + 1) + 1)), (5, .int 1), (4, .int 10), (0, .ref wr), (1, .ref ns), (2, .ref md), (3, .int 0)]) hx hb d_Wr_writeHead_150 hl (k := 1) rfl (by rfl) (by decide) rfl (fun ls hl => ?_)
  refine lv_goto (tgt := 25) hx hb d_Wr_writeHead_153 (by decide) ?_
  refine lv_iload hx hb d_Wr_writeHead_25 (lv_at hl 0 rfl) ?_
  refine lv_bipush (v := 19) hx hb d_Wr_writeHead_27 (by decide) ?_
  refine lv_icmp_gt (tgt := 156) hx hb d_Wr_writeHead_29 (by decide) (fun hc51 => absurd hc51 (by decide)) (fun hc51 => ?_)
  refine lv_iload hx hb d_Wr_writeHead_32 (lv_at hl 1 rfl) ?_
  refine lv_iconst (v := 1) hx hb d_Wr_writeHead_34 (by decide) ?_
  refine lv_icmp_ne (tgt := 156) hx hb d_Wr_writeHead_35 (by decide) (fun hc52 => absurd rfl hc52) (fun hc52 => ?_)
  refine lv_iload hx hb d_Wr_writeHead_38 (lv_at hl 0 rfl) ?_
  refine lv_topi (fun v53 e54 => ?_)
  obtain rfl : v53 = 19 := e54.trans (by decide)
  refine lv_lookup (x := 19) (off := 61) (tgt := 101) hx hb d_Wr_writeHead_40 (by decide) (by decide) (by decide) ?_
  refine lv_aload_n hx hb d_Wr_writeHead_101 rfl (lv_at hl 3 rfl) ?_
  refine hm_get (ci := 7) (v := .ref pg) (C := R_Wr) (T := F_Wr) (N := 2) hx hb hts ig_Wr hown hK hH f_wr rfl 1 (by decide) (hts _ mw_56) (fun _ h9 => h9) rfl d_Wr_writeHead_102 ?_
  refine lv_aload_n hx hb d_Wr_writeHead_105 rfl (lv_at hl 4 rfl) ?_
  refine hm_get (ci := 2) (v := .ref od) (C := R_Ns) (T := F_Ns) (N := 4) hx hb hts ig_Ns hown hK hH f_ns rfl 1 (by decide) (hts _ mw_181) (fun _ h9 => h9) rfl d_Wr_writeHead_106 ?_
  refine lv_aload_n hx hb d_Wr_writeHead_109 rfl (lv_at hl 4 rfl) ?_
  refine hm_get (ci := 2) (v := .int 1) (C := R_Ns) (T := F_Ns) (N := 4) hx hb hts ig_Ns hown hK hH f_ns rfl 2 (by decide) (hts _ mw_180) (fun _ h9 => h9) rfl d_Wr_writeHead_110 ?_
  refine lv_iload hx hb d_Wr_writeHead_113 (lv_at hl 0 rfl) ?_
  refine lv_bipush (v := 18) hx hb d_Wr_writeHead_115 (by decide) ?_
  refine lv_icmp_ne (tgt := 124) hx hb d_Wr_writeHead_117 (by decide) (fun hc55 => ?_) (fun hc55 => absurd hc55 (by decide))
  refine lv_iconst (v := 0) hx hb d_Wr_writeHead_124 (by decide) ?_
  refine hm_calli (va_runV (As := [.ref od, .int 1, .int 0]) (b := pg) (rest := []) ⟨hx, hb, hml, hown, hts⟩ (c_Page_pathtable l D t G ak av h47 pg pb od rt g 0 sc (0 + 1) f_pg ⟨f, hfit, f_pb⟩ f_od f_rt hg0) ⟨cw9B 3 hts mw_191 mw_192 mw_52 rfl rfl (by decide +kernel) ⟨Nat.le_of_ble_eq_true rfl, Nat.le_of_ble_eq_true rfl⟩, hts _ mw_193, hts _ mw_194⟩ (hP_V (q := (R_Pg, F_Pg, 1)) kE_ok hE hK hH f_pg rfl) rfl rfl hl.1 rfl (lv_room (Nat.le_of_ble_eq_true rfl)) d_Wr_writeHead_125 ⟨Nat.le_of_ble_eq_true rfl, Nat.le_of_ble_eq_true rfl⟩) hLo (fun r56 h57 H58 locs hp60 hH z59 hLo => ?_)
  have hz : s.heap.size ≤ H58.size := Nat.le_trans hz z59
  obtain ⟨rfl, hk9, hr9, f, hfit, f_pb2⟩ := hp60
  have hrow : rowP (.inr (6, [.int 0, .int 0, .null])) fa (18 + 1) n h57 := rowP_kp hrow hk9 (List.forall_mem_cons.mpr ⟨by rw [f_pb]; simp, List.forall_mem_cons.mpr ⟨by rw [f_rt]; simp, List.forall_mem_nil _⟩⟩)
  have f_wr : h57 wr = some (.inr (7, [.ref su, .ref pg])) := kp_at hk9 f_wr (nmc (Ne.symm (h_neA f_pb f_wr)) (nmc (h_neC f_wr f_rt (by decide)) nm0))
  have f_pg : h57 pg = some (.inr (3, [.ref pb])) := kp_at hk9 f_pg (nmc (Ne.symm (h_neA f_pb f_pg)) (nmc (h_neC f_pg f_rt (by decide)) nm0))
  have f_ns : h57 ns = some (.inr (2, [.ref sl, .ref od, .int 1, .int 1])) := kp_at hk9 f_ns (nmc (Ne.symm (h_neA f_pb f_ns)) (nmc (h_neC f_ns f_rt (by decide)) nm0))
  have f_sl : h57 sl = some (.inl ((t 4), 30, .inr (.inr (.inr (.inr fs))))) := kp_at hk9 f_sl (nmc (h_neK (k1 := 4) (k2 := 0) f_sl f_pb rfl rfl (by decide)) (nmc (h_neA f_sl f_rt) nm0))
  have f_od : h57 od = some (.inl ((t 4), 30, .inr (.inr (.inr (.inr g))))) := kp_at hk9 f_od (nmc (h_neK (k1 := 4) (k2 := 0) f_od f_pb rfl rfl (by decide)) (nmc (h_neA f_od f_rt) nm0))
  have f_md : h57 md = some (.inr (0, [.ref sa, .int (nI (18 + 1))])) := kp_at hk9 f_md (nmc (Ne.symm (h_neA f_pb f_md)) (nmc (h_neC f_md f_rt (by decide)) nm0))
  have f_sa : h57 sa = some (.inl ((t 5), n, .inr (.inr (.inr (.inr fa))))) := kp_at hk9 f_sa (nmc (h_neK (k1 := 4) (k2 := 0) f_sa f_pb rfl rfl (by decide)) (nmc (h_neA f_sa f_rt) nm0))
  have f_su : h57 su = some (.inr (4, [.int (-1), .int 0, .int (sp + 1 + 1 + 1)])) := kp_at hk9 f_su (nmc (Ne.symm (h_neA f_pb f_su)) (nmc (h_neC f_su f_rt (by decide)) nm0))
  have hkp : kx (.inr (6, [.int 0, .int 0, .null])) [pb, rt, md, su] h h57 := kx_trp hkp hk9 (List.forall_mem_cons.mpr ⟨Or.inl (by simp), List.forall_mem_cons.mpr ⟨Or.inl (by simp), List.forall_mem_nil _⟩⟩)
  have f_pb : h57 pb = some (.inl ((t 0), 2048, .inl f)) := f_pb2
  have f_rt : h57 rt = some (.inr (1, [.int 0, .null, .int 1, .long 0, .int 0, .int 0, .int 0, .int 0, .int 0, .int sc, .int (0 + 1)])) := hr9
  refine lv_pop hx hb d_Wr_writeHead_128 rfl ?_
  refine lv_aload_n hx hb d_Wr_writeHead_129 rfl (lv_at hl 5 rfl) ?_
  refine lv_iload_n hx hb d_Wr_writeHead_130 rfl (lv_at hl 6 rfl) ?_
  refine lv_iload hx hb d_Wr_writeHead_131 (lv_at hl 0 rfl) ?_
  refine lv_iadd hx hb d_Wr_writeHead_133 ?_
  refine lv_topi (fun v61 e62 => ?_)
  obtain rfl : v61 = nI 19 := e62.trans (by decide)
  refine lv_aload_n hx hb d_Wr_writeHead_134 rfl (lv_at hl 3 rfl) ?_
  refine hm_get (ci := 7) (v := .ref pg) (C := R_Wr) (T := F_Wr) (N := 2) hx hb hts ig_Wr hown hK hH f_wr rfl 1 (by decide) (hts _ mw_56) (fun _ h9 => h9) rfl d_Wr_writeHead_135 ?_
  refine hm_get (ci := 3) (v := .ref pb) (C := R_Pg) (T := F_Pg) (N := 1) hx hb hts ig_Pg hown hK hH f_pg rfl 0 (by decide) (hts _ mw_200) (fun _ h9 => h9) rfl d_Wr_writeHead_138 ?_
  refine lv_aload_n hx hb d_Wr_writeHead_141 rfl (lv_at hl 3 rfl) ?_
  refine hm_get (ci := 7) (v := .ref su) (C := R_Wr) (T := F_Wr) (N := 2) hx hb hts ig_Wr hown hK hH f_wr rfl 0 (by decide) (hts _ mw_49) (fun _ h9 => h9) rfl d_Wr_writeHead_142 ?_
  refine hm_calli (va_runV (As := [.int (nI 19), .ref pb, .ref su]) (b := md) (rest := []) ⟨hx, hb, hml, hown, hts⟩ (c_Medium_write l D t G ak av h57 md sa pb su n 19 (18 + 1) fa (sp + 1 + 1 + 1) f_md f_sa f_su ⟨f, hfit, f_pb⟩ (rowP_mono hrow (by decide)) (by omega) (by decide) (by omega)) ⟨cw9B 3 hts mw_201 mw_202 mw_163 rfl rfl (by decide +kernel) ⟨Nat.le_of_ble_eq_true rfl, Nat.le_of_ble_eq_true rfl⟩, hts _ mw_203, hts _ mw_204⟩ (hP_V (q := (R_Me, F_Me, 2)) kE_ok hE hK hH f_md rfl) rfl rfl hl.1 rfl (lv_room (Nat.le_of_ble_eq_true rfl)) d_Wr_writeHead_145 ⟨Nat.le_of_ble_eq_true rfl, Nat.le_of_ble_eq_true rfl⟩) hLo (fun r63 h64 H65 locs hp67 hH z66 hLo => ?_)
  have hz : s.heap.size ≤ H65.size := Nat.le_trans hz z66
  obtain ⟨rfl, hrow, hk9, hm9, hs9⟩ := hp67
  have f_wr : h64 wr = some (.inr (7, [.ref su, .ref pg])) := kx_at hk9 f_wr (nmc (h_neC f_wr f_md (by decide)) (nmc (h_neC f_wr f_su (by decide)) nm0)) (by simp)
  have f_pg : h64 pg = some (.inr (3, [.ref pb])) := kx_at hk9 f_pg (nmc (h_neC f_pg f_md (by decide)) (nmc (h_neC f_pg f_su (by decide)) nm0)) (by simp)
  have f_ns : h64 ns = some (.inr (2, [.ref sl, .ref od, .int 1, .int 1])) := kx_at hk9 f_ns (nmc (h_neC f_ns f_md (by decide)) (nmc (h_neC f_ns f_su (by decide)) nm0)) (by simp)
  have f_sl : h64 sl = some (.inl ((t 4), 30, .inr (.inr (.inr (.inr fs))))) := kx_at hk9 f_sl (nmc (h_neA f_sl f_md) (nmc (h_neA f_sl f_su) nm0)) (by simp)
  have f_od : h64 od = some (.inl ((t 4), 30, .inr (.inr (.inr (.inr g))))) := kx_at hk9 f_od (nmc (h_neA f_od f_md) (nmc (h_neA f_od f_su) nm0)) (by simp)
  have f_rt : h64 rt = some (.inr (1, [.int 0, .null, .int 1, .long 0, .int 0, .int 0, .int 0, .int 0, .int 0, .int sc, .int (0 + 1)])) := kx_at hk9 f_rt (nmc (h_neC f_rt f_md (by decide)) (nmc (h_neC f_rt f_su (by decide)) nm0)) (by simp)
  have f_sa : h64 sa = some (.inl ((t 5), n, .inr (.inr (.inr (.inr fa))))) := kx_at hk9 f_sa (nmc (h_neA f_sa f_md) (nmc (h_neA f_sa f_su) nm0)) (by simp)
  have f_pb : h64 pb = some (.inl ((t 0), 2048, .inl f)) := kx_at hk9 f_pb (nmc (h_neA f_pb f_md) (nmc (h_neA f_pb f_su) nm0)) (by simp)
  have hkp : kx (.inr (6, [.int 0, .int 0, .null])) [pb, rt, md, su] h h64 := kx_trx hkp hk9 (List.forall_mem_cons.mpr ⟨Or.inl (by simp), List.forall_mem_cons.mpr ⟨Or.inl (by simp), List.forall_mem_nil _⟩⟩)
  have f_md : h64 md = some (.inr (0, [.ref sa, .int (nI (19 + 1))])) := hm9
  have f_su : h64 su = some (.inr (4, [.int (-1), .int 0, .int (sp + 1 + 1 + 1 + 1)])) := hs9
  refine lv_istore (lv' := [(5, .int 1), (6, .int (((16 + 1) + 1) + 1)), (4, .int 10), (0, .ref wr), (1, .ref ns), (2, .ref md), (3, .int 0)]) hx hb d_Wr_writeHead_148 hl (by decide) rfl (fun ls hl => ?_)
  refine lv_iinc (v := (((16 + 1) + 1) + 1) + 1) (lv' := [(6, .int ((((16 + 1) + 1) + 1) + 1)), (5, .int 1), (4, .int 10), (0, .ref wr), (1, .ref ns), (2, .ref md), (3, .int 0)]) hx hb d_Wr_writeHead_150 hl (k := 1) rfl (by rfl) (by decide) rfl (fun ls hl => ?_)
  refine lv_goto (tgt := 25) hx hb d_Wr_writeHead_153 (by decide) ?_
  refine lv_iload hx hb d_Wr_writeHead_25 (lv_at hl 0 rfl) ?_
  refine lv_bipush (v := 19) hx hb d_Wr_writeHead_27 (by decide) ?_
  refine lv_icmp_gt (tgt := 156) hx hb d_Wr_writeHead_29 (by decide) (fun hc68 => ?_) (fun hc68 => absurd (by decide) hc68)
  refine lv_iload hx hb d_Wr_writeHead_156 (lv_at hl 1 rfl) ?_
  exact W.iret (v := 1) hx hb hr (fun t9 ht hW => ⟨1, h64, rfl, ⟨rfl, hkp, hrow, f_rt, f_md, f_su, f, hfit, f_pb⟩, by rw [ht]; exact hH, by rw [ht]; exact hz⟩) hLo d_Wr_writeHead_158

set_option maxHeartbeats 4000000 in
set_option maxRecDepth 100000 in
theorem c_Writer_dirs (l : Launch) (D : va_G) (t : Nat → ClassId) (G : Heap) (ak av : Nat → Nat) (h : hM) (wr pg pb ns sl od rt md sa su n : Nat) (fs g fa : Nat → Option Nat) (np sp : Int32) (f_wr : h wr = some (.inr (7, [.ref su, .ref pg]))) (f_pg : h pg = some (.inr (3, [.ref pb]))) (f_ns : h ns = some (.inr (2, [.ref sl, .ref od, .int 1, .int 1]))) (f_sl : h sl = some (.inl ((t 4), 30, .inr (.inr (.inr (.inr fs)))))) (f_od : h od = some (.inl ((t 4), 30, .inr (.inr (.inr (.inr g)))))) (f_rt : h rt = some (.inr (1, [.int 0, .null, .int 1, .long 0, .int 0, .int 0, .int 0, .int 0, .int 0, .int 20, .int np]))) (f_md : h md = some (.inr (0, [.ref sa, .int (nI (19 + 1))]))) (f_sa : h sa = some (.inl ((t 5), n, .inr (.inr (.inr (.inr fa)))))) (f_su : h su = some (.inr (4, [.int (-1), .int 0, .int sp]))) (hpb : pgF t h pb 2048) (hf0 : fs 0 = some rt) (hg0 : g 0 = some rt) (hrow : rowP (.inr (6, [.int 0, .int 0, .null])) fa (19 + 1) n h) (hn40 : 40 ≤ n) (hn : n ≤ 200) : Met l y_Wr_writeDirectories (.code y_Wr_writeDirectories b_Wr_writeDirectories 5 (some .int) :: lw_g) { frames := 4, cells := 1, slots := 2048, locals := 126 } (hP (kE D t G ak av) D vwCl G h [.ref wr, .ref ns, .ref md]) (hQi D vwCl G (fun r h' => r = 1 ∧ kx (.inr (6, [.int 0, .int 0, .null])) [pb, md, su] h h' ∧ rowP (.inr (6, [.int 0, .int 0, .null])) fa (20 + 1) n h' ∧ h' md = some (.inr (0, [.ref sa, .int (nI (20 + 1))])) ∧ h' su = some (.inr (4, [.int (-1), .int 0, .int (sp + 1)])) ∧ pgF t h' pb 2048)) 1 2048 (fun q => G.size ≤ q) := by
  refine Met.ofW (cc := b_Wr_writeDirectories) (maxL := 5) (ret := (some .int)) (by decide) rfl ?_
  intro p e s m args below meth c s₁ Bd hml hv
  obtain ⟨ha, hE, hH⟩ := hv
  have hx := Bd.exec
  have hb := Bd.bytes
  have hr := Bd.returns
  have hts : ∀ w ∈ lw_g, w.before args s = true := fun w hw => atoms_spec (ws := (.code y_Wr_writeDirectories b_Wr_writeDirectories 5 (some .int) :: lw_g)) Bd.pre w (List.mem_cons_of_mem _ hw)
  have hown : s.vm.findClass R_Wr = some m.cls := findClass_of_methodNamed Bd.named
  have hlocks := Bd.notSynchronized
  have hK := hE.1
  have hH0 := hH
  have hLo : hLc G.size [] := hLc_nil
  have hz : s.heap.size ≤ s.heap.size := Nat.le_refl _
  have hkp : kx (.inr (6, [.int 0, .int 0, .null])) [pb, md, su] h h := kx_rf
  have hl := lv_entry [.ref wr, .ref ns, .ref md] (n := 5) (Nat.le_of_ble_eq_true rfl)
  rw [show entryFrame m args 5 = F0 m 0 ((lg_sl [.ref wr, .ref ns, .ref md] ++ List.replicate (5 - (lg_sl [.ref wr, .ref ns, .ref md]).length) Slot.unset).toArray) [] from (by rw [ha]; exact lg_entry_eq m [.ref wr, .ref ns, .ref md] 5)]
  generalize (lg_sl [.ref wr, .ref ns, .ref md] ++ List.replicate (5 - (lg_sl [.ref wr, .ref ns, .ref md]).length) Slot.unset).toArray = ls at hl ⊢
  have hl : lv_has ls 5 [(0, .ref wr), (1, .ref ns), (2, .ref md)] := hl
  obtain ⟨f, hfit, f_pb⟩ := hpb
  refine lv_iconst (v := 1) hx hb d_Wr_writeDirectories_0 (by decide) ?_
  refine lv_istore_n (lv' := [(3, .int 1), (0, .ref wr), (1, .ref ns), (2, .ref md)]) hx hb d_Wr_writeDirectories_1 rfl hl (by decide) rfl (fun ls hl => ?_)
  refine lv_iconst (v := 0) hx hb d_Wr_writeDirectories_2 (by decide) ?_
  refine lv_istore (lv' := [(4, .int 0), (3, .int 1), (0, .ref wr), (1, .ref ns), (2, .ref md)]) hx hb d_Wr_writeDirectories_3 hl (by decide) rfl (fun ls hl => ?_)
  refine lv_iload hx hb d_Wr_writeDirectories_5 (lv_at hl 0 rfl) ?_
  refine lv_aload_n hx hb d_Wr_writeDirectories_7 rfl (lv_at hl 3 rfl) ?_
  refine hm_get (ci := 2) (v := .int 1) (C := R_Ns) (T := F_Ns) (N := 4) hx hb hts ig_Ns hown hK hH f_ns rfl 2 (by decide) (hts _ mw_180) (fun _ h9 => h9) rfl d_Wr_writeDirectories_8 ?_
  refine lv_icmp_ge (tgt := 86) hx hb d_Wr_writeDirectories_11 (by decide) (fun hc1 => absurd hc1 (by decide)) (fun hc1 => ?_)
  refine lv_iload_n hx hb d_Wr_writeDirectories_14 rfl (lv_at hl 1 rfl) ?_
  refine lv_iconst (v := 1) hx hb d_Wr_writeDirectories_15 (by decide) ?_
  refine lv_icmp_ne (tgt := 86) hx hb d_Wr_writeDirectories_16 (by decide) (fun hc2 => absurd rfl hc2) (fun hc2 => ?_)
  refine lv_aload_n hx hb d_Wr_writeDirectories_19 rfl (lv_at hl 3 rfl) ?_
  refine hm_get (ci := 2) (v := .ref od) (C := R_Ns) (T := F_Ns) (N := 4) hx hb hts ig_Ns hown hK hH f_ns rfl 1 (by decide) (hts _ mw_181) (fun _ h9 => h9) rfl d_Wr_writeDirectories_20 ?_
  refine lv_iload hx hb d_Wr_writeDirectories_23 (lv_at hl 0 rfl) ?_
  refine hj_aald (v := .ref rt) hx hb hK hH 4 f_od (C := R_No) rfl 0 (by decide) (by decide) (by decide) (by rw [hg0]; rfl) d_Wr_writeDirectories_25 ?_
  refine hm_get (ci := 1) (v := .int 1) (C := R_No) (T := F_No) (N := 11) hx hb hts ig_No hown hK hH f_rt rfl 2 (by decide) (hts _ mw_182) (fun _ h9 => h9) rfl d_Wr_writeDirectories_26 ?_
  refine lv_if_eq (tgt := 80) hx hb d_Wr_writeDirectories_29 (by decide) (fun hc3 => absurd hc3 (by decide)) (fun hc3 => ?_)
  refine lv_aload_n hx hb d_Wr_writeDirectories_32 rfl (lv_at hl 2 rfl) ?_
  refine hm_get (ci := 7) (v := .ref pg) (C := R_Wr) (T := F_Wr) (N := 2) hx hb hts ig_Wr hown hK hH f_wr rfl 1 (by decide) (hts _ mw_56) (fun _ h9 => h9) rfl d_Wr_writeDirectories_33 ?_
  refine lv_aload_n hx hb d_Wr_writeDirectories_36 rfl (lv_at hl 3 rfl) ?_
  refine hm_get (ci := 2) (v := .ref od) (C := R_Ns) (T := F_Ns) (N := 4) hx hb hts ig_Ns hown hK hH f_ns rfl 1 (by decide) (hts _ mw_181) (fun _ h9 => h9) rfl d_Wr_writeDirectories_37 ?_
  refine lv_iload hx hb d_Wr_writeDirectories_40 (lv_at hl 0 rfl) ?_
  refine hj_aald (v := .ref rt) hx hb hK hH 4 f_od (C := R_No) rfl 0 (by decide) (by decide) (by decide) (by rw [hg0]; rfl) d_Wr_writeDirectories_42 ?_
  refine lv_aload_n hx hb d_Wr_writeDirectories_43 rfl (lv_at hl 3 rfl) ?_
  refine hm_get (ci := 2) (v := .ref od) (C := R_Ns) (T := F_Ns) (N := 4) hx hb hts ig_Ns hown hK hH f_ns rfl 1 (by decide) (hts _ mw_181) (fun _ h9 => h9) rfl d_Wr_writeDirectories_44 ?_
  refine lv_aload_n hx hb d_Wr_writeDirectories_47 rfl (lv_at hl 3 rfl) ?_
  refine hm_get (ci := 2) (v := .int 1) (C := R_Ns) (T := F_Ns) (N := 4) hx hb hts ig_Ns hown hK hH f_ns rfl 2 (by decide) (hts _ mw_180) (fun _ h9 => h9) rfl d_Wr_writeDirectories_48 ?_
  refine hm_callv (va_runV (As := [.ref rt, .ref od, .int 1]) (b := pg) (rest := []) ⟨hx, hb, hml, hown, hts⟩ (c_Page_directory l D t G ak av h pg pb od rt g 20 np f_pg ⟨f, hfit, f_pb⟩ f_od f_rt hg0) ⟨cw9B 3 hts mw_206 mw_207 mw_52 rfl rfl (by decide +kernel) ⟨Nat.le_of_ble_eq_true rfl, Nat.le_of_ble_eq_true rfl⟩, hts _ mw_208, hts _ mw_209⟩ (hP_V (q := (R_Pg, F_Pg, 1)) kE_ok hE hK hH f_pg rfl) rfl rfl hl.1 rfl (lv_room (Nat.le_of_ble_eq_true rfl)) d_Wr_writeDirectories_51 ⟨Nat.le_of_ble_eq_true rfl, Nat.le_of_ble_eq_true rfl⟩) hLo (fun h4 H5 locs hp7 hH z6 hLo => ?_)
  have hz : s.heap.size ≤ H5.size := Nat.le_trans hz z6
  obtain ⟨hk9, f, hfit, f_pb2⟩ := hp7
  have hrow : rowP (.inr (6, [.int 0, .int 0, .null])) fa (19 + 1) n h4 := rowP_kp hrow hk9 (List.forall_mem_cons.mpr ⟨by rw [f_pb]; simp, List.forall_mem_nil _⟩)
  have f_wr : h4 wr = some (.inr (7, [.ref su, .ref pg])) := kp_at hk9 f_wr (nmc (Ne.symm (h_neA f_pb f_wr)) nm0)
  have f_pg : h4 pg = some (.inr (3, [.ref pb])) := kp_at hk9 f_pg (nmc (Ne.symm (h_neA f_pb f_pg)) nm0)
  have f_ns : h4 ns = some (.inr (2, [.ref sl, .ref od, .int 1, .int 1])) := kp_at hk9 f_ns (nmc (Ne.symm (h_neA f_pb f_ns)) nm0)
  have f_sl : h4 sl = some (.inl ((t 4), 30, .inr (.inr (.inr (.inr fs))))) := kp_at hk9 f_sl (nmc (h_neK (k1 := 4) (k2 := 0) f_sl f_pb rfl rfl (by decide)) nm0)
  have f_od : h4 od = some (.inl ((t 4), 30, .inr (.inr (.inr (.inr g))))) := kp_at hk9 f_od (nmc (h_neK (k1 := 4) (k2 := 0) f_od f_pb rfl rfl (by decide)) nm0)
  have f_rt : h4 rt = some (.inr (1, [.int 0, .null, .int 1, .long 0, .int 0, .int 0, .int 0, .int 0, .int 0, .int 20, .int np])) := kp_at hk9 f_rt (nmc (Ne.symm (h_neA f_pb f_rt)) nm0)
  have f_md : h4 md = some (.inr (0, [.ref sa, .int (nI (19 + 1))])) := kp_at hk9 f_md (nmc (Ne.symm (h_neA f_pb f_md)) nm0)
  have f_sa : h4 sa = some (.inl ((t 5), n, .inr (.inr (.inr (.inr fa))))) := kp_at hk9 f_sa (nmc (h_neK (k1 := 4) (k2 := 0) f_sa f_pb rfl rfl (by decide)) nm0)
  have f_su : h4 su = some (.inr (4, [.int (-1), .int 0, .int sp])) := kp_at hk9 f_su (nmc (Ne.symm (h_neA f_pb f_su)) nm0)
  have hkp : kx (.inr (6, [.int 0, .int 0, .null])) [pb, md, su] h h4 := kx_trp hkp hk9 (List.forall_mem_cons.mpr ⟨Or.inl (by simp), List.forall_mem_nil _⟩)
  have f_pb : h4 pb = some (.inl ((t 0), 2048, .inl f)) := f_pb2
  refine lv_aload_n hx hb d_Wr_writeDirectories_54 rfl (lv_at hl 4 rfl) ?_
  refine lv_aload_n hx hb d_Wr_writeDirectories_55 rfl (lv_at hl 3 rfl) ?_
  refine hm_get (ci := 2) (v := .ref od) (C := R_Ns) (T := F_Ns) (N := 4) hx hb hts ig_Ns hown hK hH f_ns rfl 1 (by decide) (hts _ mw_181) (fun _ h9 => h9) rfl d_Wr_writeDirectories_56 ?_
  refine lv_iload hx hb d_Wr_writeDirectories_59 (lv_at hl 0 rfl) ?_
  refine hj_aald (v := .ref rt) hx hb hK hH 4 f_od (C := R_No) rfl 0 (by decide) (by decide) (by decide) (by rw [hg0]; rfl) d_Wr_writeDirectories_61 ?_
  refine hm_get (ci := 1) (v := .int 20) (C := R_No) (T := F_No) (N := 11) hx hb hts ig_No hown hK hH f_rt rfl 9 (by decide) (hts _ mw_183) (fun _ h9 => h9) rfl d_Wr_writeDirectories_62 ?_
  refine lv_topi (fun v8 e9 => ?_)
  obtain rfl : v8 = nI 20 := e9.trans (by decide)
  refine lv_aload_n hx hb d_Wr_writeDirectories_65 rfl (lv_at hl 2 rfl) ?_
  refine hm_get (ci := 7) (v := .ref pg) (C := R_Wr) (T := F_Wr) (N := 2) hx hb hts ig_Wr hown hK hH f_wr rfl 1 (by decide) (hts _ mw_56) (fun _ h9 => h9) rfl d_Wr_writeDirectories_66 ?_
  refine hm_get (ci := 3) (v := .ref pb) (C := R_Pg) (T := F_Pg) (N := 1) hx hb hts ig_Pg hown hK hH f_pg rfl 0 (by decide) (hts _ mw_200) (fun _ h9 => h9) rfl d_Wr_writeDirectories_69 ?_
  refine lv_aload_n hx hb d_Wr_writeDirectories_72 rfl (lv_at hl 2 rfl) ?_
  refine hm_get (ci := 7) (v := .ref su) (C := R_Wr) (T := F_Wr) (N := 2) hx hb hts ig_Wr hown hK hH f_wr rfl 0 (by decide) (hts _ mw_49) (fun _ h9 => h9) rfl d_Wr_writeDirectories_73 ?_
  refine hm_calli (va_runV (As := [.int (nI 20), .ref pb, .ref su]) (b := md) (rest := []) ⟨hx, hb, hml, hown, hts⟩ (c_Medium_write l D t G ak av h4 md sa pb su n 20 (19 + 1) fa sp f_md f_sa f_su ⟨f, hfit, f_pb⟩ (rowP_mono hrow (by decide)) (by omega) (by decide) (by omega)) ⟨cw9B 3 hts mw_201 mw_202 mw_163 rfl rfl (by decide +kernel) ⟨Nat.le_of_ble_eq_true rfl, Nat.le_of_ble_eq_true rfl⟩, hts _ mw_203, hts _ mw_204⟩ (hP_V (q := (R_Me, F_Me, 2)) kE_ok hE hK hH f_md rfl) rfl rfl hl.1 rfl (lv_room (Nat.le_of_ble_eq_true rfl)) d_Wr_writeDirectories_76 ⟨Nat.le_of_ble_eq_true rfl, Nat.le_of_ble_eq_true rfl⟩) hLo (fun r10 h11 H12 locs hp14 hH z13 hLo => ?_)
  have hz : s.heap.size ≤ H12.size := Nat.le_trans hz z13
  obtain ⟨rfl, hrow, hk9, hm9, hs9⟩ := hp14
  have f_wr : h11 wr = some (.inr (7, [.ref su, .ref pg])) := kx_at hk9 f_wr (nmc (h_neC f_wr f_md (by decide)) (nmc (h_neC f_wr f_su (by decide)) nm0)) (by simp)
  have f_pg : h11 pg = some (.inr (3, [.ref pb])) := kx_at hk9 f_pg (nmc (h_neC f_pg f_md (by decide)) (nmc (h_neC f_pg f_su (by decide)) nm0)) (by simp)
  have f_ns : h11 ns = some (.inr (2, [.ref sl, .ref od, .int 1, .int 1])) := kx_at hk9 f_ns (nmc (h_neC f_ns f_md (by decide)) (nmc (h_neC f_ns f_su (by decide)) nm0)) (by simp)
  have f_sl : h11 sl = some (.inl ((t 4), 30, .inr (.inr (.inr (.inr fs))))) := kx_at hk9 f_sl (nmc (h_neA f_sl f_md) (nmc (h_neA f_sl f_su) nm0)) (by simp)
  have f_od : h11 od = some (.inl ((t 4), 30, .inr (.inr (.inr (.inr g))))) := kx_at hk9 f_od (nmc (h_neA f_od f_md) (nmc (h_neA f_od f_su) nm0)) (by simp)
  have f_rt : h11 rt = some (.inr (1, [.int 0, .null, .int 1, .long 0, .int 0, .int 0, .int 0, .int 0, .int 0, .int 20, .int np])) := kx_at hk9 f_rt (nmc (h_neC f_rt f_md (by decide)) (nmc (h_neC f_rt f_su (by decide)) nm0)) (by simp)
  have f_sa : h11 sa = some (.inl ((t 5), n, .inr (.inr (.inr (.inr fa))))) := kx_at hk9 f_sa (nmc (h_neA f_sa f_md) (nmc (h_neA f_sa f_su) nm0)) (by simp)
  have f_pb : h11 pb = some (.inl ((t 0), 2048, .inl f)) := kx_at hk9 f_pb (nmc (h_neA f_pb f_md) (nmc (h_neA f_pb f_su) nm0)) (by simp)
  have hkp : kx (.inr (6, [.int 0, .int 0, .null])) [pb, md, su] h h11 := kx_trx hkp hk9 (List.forall_mem_cons.mpr ⟨Or.inl (by simp), List.forall_mem_cons.mpr ⟨Or.inl (by simp), List.forall_mem_nil _⟩⟩)
  have f_md : h11 md = some (.inr (0, [.ref sa, .int (nI (20 + 1))])) := hm9
  have f_su : h11 su = some (.inr (4, [.int (-1), .int 0, .int (sp + 1)])) := hs9
  refine lv_istore_n (lv' := [(3, .int 1), (4, .int 0), (0, .ref wr), (1, .ref ns), (2, .ref md)]) hx hb d_Wr_writeDirectories_79 rfl hl (by decide) rfl (fun ls hl => ?_)
  refine lv_iinc (v := 0 + 1) (lv' := [(4, .int (0 + 1)), (3, .int 1), (0, .ref wr), (1, .ref ns), (2, .ref md)]) hx hb d_Wr_writeDirectories_80 hl (k := 1) rfl (by rfl) (by decide) rfl (fun ls hl => ?_)
  refine lv_goto (tgt := 5) hx hb d_Wr_writeDirectories_83 (by decide) ?_
  refine lv_iload hx hb d_Wr_writeDirectories_5 (lv_at hl 0 rfl) ?_
  refine lv_aload_n hx hb d_Wr_writeDirectories_7 rfl (lv_at hl 3 rfl) ?_
  refine hm_get (ci := 2) (v := .int 1) (C := R_Ns) (T := F_Ns) (N := 4) hx hb hts ig_Ns hown hK hH f_ns rfl 2 (by decide) (hts _ mw_180) (fun _ h9 => h9) rfl d_Wr_writeDirectories_8 ?_
  refine lv_icmp_ge (tgt := 86) hx hb d_Wr_writeDirectories_11 (by decide) (fun hc15 => ?_) (fun hc15 => absurd (by decide) hc15)
  refine lv_iload_n hx hb d_Wr_writeDirectories_86 rfl (lv_at hl 1 rfl) ?_
  exact W.iret (v := 1) hx hb hr (fun t9 ht hW => ⟨1, h11, rfl, ⟨rfl, hkp, hrow, f_md, f_su, f, hfit, f_pb⟩, by rw [ht]; exact hH, by rw [ht]; exact hz⟩) hLo d_Wr_writeDirectories_87

set_option maxHeartbeats 4000000 in
set_option maxRecDepth 100000 in
theorem c_Writer_mark (l : Launch) (D : va_G) (t : Nat → ClassId) (G : Heap) (ak av : Nat → Nat) (h : hM) (wr pg pb md sa su n : Nat) (fa : Nat → Option Nat) (sp nu : Int32) (f_wr : h wr = some (.inr (7, [.ref su, .ref pg]))) (f_pg : h pg = some (.inr (3, [.ref pb]))) (f_md : h md = some (.inr (0, [.ref sa, .int (nI (20 + 1))]))) (f_sa : h sa = some (.inl ((t 5), n, .inr (.inr (.inr (.inr fa)))))) (f_su : h su = some (.inr (4, [.int (-1), .int 0, .int sp]))) (hpb : pgF t h pb 2048) (hrow : rowP (.inr (6, [.int 0, .int 0, .null])) fa (20 + 1) n h) (hn40 : 40 ≤ n) (hn : n ≤ 200) : Met l y_Wr_writeMark (.code y_Wr_writeMark b_Wr_writeMark 4 (some .int) :: lw_g) { frames := 6, cells := 1, slots := 2048, locals := 130 } (hP (kE D t G ak av) D vwCl G h [.ref wr, .ref md, .int 0, .int nu]) (hQi D vwCl G (fun r h' => r = 1 ∧ kx (.inr (6, [.int 0, .int 0, .null])) [pb, md, su] h h')) 1 2048 (fun q => G.size ≤ q) := by
  refine Met.ofW (cc := b_Wr_writeMark) (maxL := 4) (ret := (some .int)) (by decide) rfl ?_
  intro p e s m args below meth c s₁ Bd hml hv
  obtain ⟨ha, hE, hH⟩ := hv
  have hx := Bd.exec
  have hb := Bd.bytes
  have hr := Bd.returns
  have hts : ∀ w ∈ lw_g, w.before args s = true := fun w hw => atoms_spec (ws := (.code y_Wr_writeMark b_Wr_writeMark 4 (some .int) :: lw_g)) Bd.pre w (List.mem_cons_of_mem _ hw)
  have hown : s.vm.findClass R_Wr = some m.cls := findClass_of_methodNamed Bd.named
  have hlocks := Bd.notSynchronized
  have hK := hE.1
  have hH0 := hH
  have hLo : hLc G.size [] := hLc_nil
  have hz : s.heap.size ≤ s.heap.size := Nat.le_refl _
  have hkp : kx (.inr (6, [.int 0, .int 0, .null])) [pb, md, su] h h := kx_rf
  have hl := lv_entry [.ref wr, .ref md, .int 0, .int nu] (n := 4) (Nat.le_of_ble_eq_true rfl)
  rw [show entryFrame m args 4 = F0 m 0 ((lg_sl [.ref wr, .ref md, .int 0, .int nu] ++ List.replicate (4 - (lg_sl [.ref wr, .ref md, .int 0, .int nu]).length) Slot.unset).toArray) [] from (by rw [ha]; exact lg_entry_eq m [.ref wr, .ref md, .int 0, .int nu] 4)]
  generalize (lg_sl [.ref wr, .ref md, .int 0, .int nu] ++ List.replicate (4 - (lg_sl [.ref wr, .ref md, .int 0, .int nu]).length) Slot.unset).toArray = ls at hl ⊢
  have hl : lv_has ls 4 [(0, .ref wr), (1, .ref md), (2, .int 0), (3, .int nu)] := hl
  obtain ⟨f, hfit, f_pb⟩ := hpb
  refine lv_aload_n hx hb d_Wr_writeMark_0 rfl (lv_at hl 0 rfl) ?_
  refine hm_get (ci := 7) (v := .ref pg) (C := R_Wr) (T := F_Wr) (N := 2) hx hb hts ig_Wr hown hK hH f_wr rfl 1 (by decide) (hts _ mw_56) (fun _ h9 => h9) rfl d_Wr_writeMark_1 ?_
  refine lv_iload_n hx hb d_Wr_writeMark_4 rfl (lv_at hl 2 rfl) ?_
  refine lv_iload_n hx hb d_Wr_writeMark_5 rfl (lv_at hl 3 rfl) ?_
  refine hm_callv (va_runV (As := [.int 0, .int nu]) (b := pg) (rest := []) ⟨hx, hb, hml, hown, hts⟩ (c_Page_mark l D t G ak av h pg pb 0 nu f_pg ⟨f, hfit, f_pb⟩) ⟨cw9B 2 hts mw_210 mw_211 mw_52 rfl rfl (by decide +kernel) ⟨Nat.le_of_ble_eq_true rfl, Nat.le_of_ble_eq_true rfl⟩, hts _ mw_212, hts _ mw_213⟩ (hP_V (q := (R_Pg, F_Pg, 1)) kE_ok hE hK hH f_pg rfl) rfl rfl hl.1 rfl (lv_room (Nat.le_of_ble_eq_true rfl)) d_Wr_writeMark_6 ⟨Nat.le_of_ble_eq_true rfl, Nat.le_of_ble_eq_true rfl⟩) hLo (fun h1 H2 locs hp4 hH z3 hLo => ?_)
  have hz : s.heap.size ≤ H2.size := Nat.le_trans hz z3
  obtain ⟨hk9, f, hfit, f_pb2⟩ := hp4
  have hrow : rowP (.inr (6, [.int 0, .int 0, .null])) fa (20 + 1) n h1 := rowP_kp hrow hk9 (List.forall_mem_cons.mpr ⟨by rw [f_pb]; simp, List.forall_mem_nil _⟩)
  have f_wr : h1 wr = some (.inr (7, [.ref su, .ref pg])) := kp_at hk9 f_wr (nmc (Ne.symm (h_neA f_pb f_wr)) nm0)
  have f_pg : h1 pg = some (.inr (3, [.ref pb])) := kp_at hk9 f_pg (nmc (Ne.symm (h_neA f_pb f_pg)) nm0)
  have f_md : h1 md = some (.inr (0, [.ref sa, .int (nI (20 + 1))])) := kp_at hk9 f_md (nmc (Ne.symm (h_neA f_pb f_md)) nm0)
  have f_sa : h1 sa = some (.inl ((t 5), n, .inr (.inr (.inr (.inr fa))))) := kp_at hk9 f_sa (nmc (h_neK (k1 := 4) (k2 := 0) f_sa f_pb rfl rfl (by decide)) nm0)
  have f_su : h1 su = some (.inr (4, [.int (-1), .int 0, .int sp])) := kp_at hk9 f_su (nmc (Ne.symm (h_neA f_pb f_su)) nm0)
  have hkp : kx (.inr (6, [.int 0, .int 0, .null])) [pb, md, su] h h1 := kx_trp hkp hk9 (List.forall_mem_cons.mpr ⟨Or.inl (by simp), List.forall_mem_nil _⟩)
  have f_pb : h1 pb = some (.inl ((t 0), 2048, .inl f)) := f_pb2
  refine lv_aload_n hx hb d_Wr_writeMark_9 rfl (lv_at hl 1 rfl) ?_
  refine lv_aload_n hx hb d_Wr_writeMark_10 rfl (lv_at hl 1 rfl) ?_
  refine hm_get (ci := 0) (v := .int (nI (20 + 1))) (C := R_Me) (T := F_Me) (N := 2) hx hb hts ig_Me hown hK hH f_md rfl 1 (by decide) (hts _ mw_214) (fun _ h9 => h9) rfl d_Wr_writeMark_11 ?_
  refine lv_topi (fun v5 e6 => ?_)
  obtain rfl : v5 = nI 21 := e6.trans (by decide)
  refine lv_aload_n hx hb d_Wr_writeMark_14 rfl (lv_at hl 0 rfl) ?_
  refine hm_get (ci := 7) (v := .ref pg) (C := R_Wr) (T := F_Wr) (N := 2) hx hb hts ig_Wr hown hK hH f_wr rfl 1 (by decide) (hts _ mw_56) (fun _ h9 => h9) rfl d_Wr_writeMark_15 ?_
  refine hm_get (ci := 3) (v := .ref pb) (C := R_Pg) (T := F_Pg) (N := 1) hx hb hts ig_Pg hown hK hH f_pg rfl 0 (by decide) (hts _ mw_200) (fun _ h9 => h9) rfl d_Wr_writeMark_18 ?_
  refine lv_aload_n hx hb d_Wr_writeMark_21 rfl (lv_at hl 0 rfl) ?_
  refine hm_get (ci := 7) (v := .ref su) (C := R_Wr) (T := F_Wr) (N := 2) hx hb hts ig_Wr hown hK hH f_wr rfl 0 (by decide) (hts _ mw_49) (fun _ h9 => h9) rfl d_Wr_writeMark_22 ?_
  refine hm_calli (va_runV (As := [.int (nI 21), .ref pb, .ref su]) (b := md) (rest := []) ⟨hx, hb, hml, hown, hts⟩ (c_Medium_write l D t G ak av h1 md sa pb su n 21 (20 + 1) fa sp f_md f_sa f_su ⟨f, hfit, f_pb⟩ (rowP_mono hrow (by decide)) (by omega) (by decide) (by omega)) ⟨cw9B 3 hts mw_201 mw_202 mw_163 rfl rfl (by decide +kernel) ⟨Nat.le_of_ble_eq_true rfl, Nat.le_of_ble_eq_true rfl⟩, hts _ mw_203, hts _ mw_204⟩ (hP_V (q := (R_Me, F_Me, 2)) kE_ok hE hK hH f_md rfl) rfl rfl hl.1 rfl (lv_room (Nat.le_of_ble_eq_true rfl)) d_Wr_writeMark_25 ⟨Nat.le_of_ble_eq_true rfl, Nat.le_of_ble_eq_true rfl⟩) hLo (fun r7 h8 H9 locs hp11 hH z10 hLo => ?_)
  have hz : s.heap.size ≤ H9.size := Nat.le_trans hz z10
  obtain ⟨rfl, hrow, hk9, hm9, hs9⟩ := hp11
  have f_wr : h8 wr = some (.inr (7, [.ref su, .ref pg])) := kx_at hk9 f_wr (nmc (h_neC f_wr f_md (by decide)) (nmc (h_neC f_wr f_su (by decide)) nm0)) (by simp)
  have f_pg : h8 pg = some (.inr (3, [.ref pb])) := kx_at hk9 f_pg (nmc (h_neC f_pg f_md (by decide)) (nmc (h_neC f_pg f_su (by decide)) nm0)) (by simp)
  have f_sa : h8 sa = some (.inl ((t 5), n, .inr (.inr (.inr (.inr fa))))) := kx_at hk9 f_sa (nmc (h_neA f_sa f_md) (nmc (h_neA f_sa f_su) nm0)) (by simp)
  have f_pb : h8 pb = some (.inl ((t 0), 2048, .inl f)) := kx_at hk9 f_pb (nmc (h_neA f_pb f_md) (nmc (h_neA f_pb f_su) nm0)) (by simp)
  have hkp : kx (.inr (6, [.int 0, .int 0, .null])) [pb, md, su] h h8 := kx_trx hkp hk9 (List.forall_mem_cons.mpr ⟨Or.inl (by simp), List.forall_mem_cons.mpr ⟨Or.inl (by simp), List.forall_mem_nil _⟩⟩)
  have f_md : h8 md = some (.inr (0, [.ref sa, .int (nI (21 + 1))])) := hm9
  have f_su : h8 su = some (.inr (4, [.int (-1), .int 0, .int (sp + 1)])) := hs9
  exact W.iret (v := 1) hx hb hr (fun t9 ht hW => ⟨1, h8, rfl, ⟨rfl, hkp⟩, by rw [ht]; exact hH, by rw [ht]; exact hz⟩) hLo d_Wr_writeMark_28

set_option maxHeartbeats 4000000 in
set_option maxRecDepth 100000 in
theorem c_Writer_session (l : Launch) (D : va_G) (t : Nat → ClassId) (G : Heap) (ak av : Nat → Nat) (h : hM) (wr pg pb ns sl od rt md sa su n : Nat) (fs g fa : Nat → Option Nat) (sc np sp : Int32) (nu : Int32) (f_wr : h wr = some (.inr (7, [.ref su, .ref pg]))) (f_pg : h pg = some (.inr (3, [.ref pb]))) (f_ns : h ns = some (.inr (2, [.ref sl, .ref od, .int 1, .int 1]))) (f_sl : h sl = some (.inl ((t 4), 30, .inr (.inr (.inr (.inr fs)))))) (f_od : h od = some (.inl ((t 4), 30, .inr (.inr (.inr (.inr g)))))) (f_rt : h rt = some (.inr (1, [.int 0, .null, .int 1, .long 0, .int 0, .int 0, .int 0, .int 0, .int 0, .int sc, .int np]))) (f_md : h md = some (.inr (0, [.ref sa, .int (nI 0)]))) (f_sa : h sa = some (.inl ((t 5), n, .inr (.inr (.inr (.inr fa)))))) (f_su : h su = some (.inr (4, [.int (-1), .int 0, .int sp]))) (hpb : pgF t h pb 2048) (hf0 : fs 0 = some rt) (hrow : rowP (.inr (6, [.int 0, .int 0, .null])) fa 0 n h) (hn40 : 40 ≤ n) (hn : n ≤ 200) (ne_sl_od : sl ≠ od) : Met l y_Wr_writeSession (.code y_Wr_writeSession b_Wr_writeSession 8 (some .int) :: lw_g) { frames := 8, cells := 6, slots := 12288, locals := 179 } (hP (kE D t G ak av) D vwCl G h [.ref wr, .ref ns, .ref md, .int nu]) (hQi D vwCl G (fun r h' => r = 1 ∧ kx (.inr (6, [.int 0, .int 0, .null])) [pb, rt, md, su, od] h h')) 6 12288 (fun q => G.size ≤ q) := by
  refine Met.ofW (cc := b_Wr_writeSession) (maxL := 8) (ret := (some .int)) (by decide) rfl ?_
  intro p e s m args below meth c s₁ Bd hml hv
  obtain ⟨ha, hE, hH⟩ := hv
  have hx := Bd.exec
  have hb := Bd.bytes
  have hr := Bd.returns
  have hts : ∀ w ∈ lw_g, w.before args s = true := fun w hw => atoms_spec (ws := (.code y_Wr_writeSession b_Wr_writeSession 8 (some .int) :: lw_g)) Bd.pre w (List.mem_cons_of_mem _ hw)
  have hown : s.vm.findClass R_Wr = some m.cls := findClass_of_methodNamed Bd.named
  have hlocks := Bd.notSynchronized
  have hK := hE.1
  have hH0 := hH
  have hLo : hLc G.size [] := hLc_nil
  have hz : s.heap.size ≤ s.heap.size := Nat.le_refl _
  have hkp : kx (.inr (6, [.int 0, .int 0, .null])) [pb, rt, md, su, od] h h := kx_rf
  have hl := lv_entry [.ref wr, .ref ns, .ref md, .int nu] (n := 8) (Nat.le_of_ble_eq_true rfl)
  rw [show entryFrame m args 8 = F0 m 0 ((lg_sl [.ref wr, .ref ns, .ref md, .int nu] ++ List.replicate (8 - (lg_sl [.ref wr, .ref ns, .ref md, .int nu]).length) Slot.unset).toArray) [] from (by rw [ha]; exact lg_entry_eq m [.ref wr, .ref ns, .ref md, .int nu] 8)]
  generalize (lg_sl [.ref wr, .ref ns, .ref md, .int nu] ++ List.replicate (8 - (lg_sl [.ref wr, .ref ns, .ref md, .int nu]).length) Slot.unset).toArray = ls at hl ⊢
  have hl : lv_has ls 8 [(0, .ref wr), (1, .ref ns), (2, .ref md), (3, .int nu)] := hl
  obtain ⟨f, hfit, f_pb⟩ := hpb
  refine lv_aload_n hx hb d_Wr_writeSession_0 rfl (lv_at hl 1 rfl) ?_
  refine hm_callv (va_runV (As := []) (b := ns) (rest := []) ⟨hx, hb, hml, hown, hts⟩ (c_Nodes_order l D t G ak av h ns sl od rt fs g sc np f_ns f_sl f_od f_rt hf0 ne_sl_od) ⟨cw9B 0 hts mw_215 mw_216 mw_187 rfl rfl (by decide +kernel) ⟨Nat.le_of_ble_eq_true rfl, Nat.le_of_ble_eq_true rfl⟩, hts _ mw_217, hts _ mw_218⟩ (hP_V (q := (R_Ns, F_Ns, 4)) kE_ok hE hK hH f_ns rfl) rfl rfl hl.1 rfl (lv_room (Nat.le_of_ble_eq_true rfl)) d_Wr_writeSession_1 ⟨Nat.le_of_ble_eq_true rfl, Nat.le_of_ble_eq_true rfl⟩) hLo (fun h1 H2 locs hp4 hH z3 hLo => ?_)
  have hz : s.heap.size ≤ H2.size := Nat.le_trans hz z3
  obtain ⟨hk9, ho9⟩ := hp4
  have hrow : rowP (.inr (6, [.int 0, .int 0, .null])) fa 0 n h1 := rowP_kp hrow hk9 (List.forall_mem_cons.mpr ⟨by rw [f_od]; simp, List.forall_mem_nil _⟩)
  have f_wr : h1 wr = some (.inr (7, [.ref su, .ref pg])) := kp_at hk9 f_wr (nmc (Ne.symm (h_neA f_od f_wr)) nm0)
  have f_pg : h1 pg = some (.inr (3, [.ref pb])) := kp_at hk9 f_pg (nmc (Ne.symm (h_neA f_od f_pg)) nm0)
  have f_ns : h1 ns = some (.inr (2, [.ref sl, .ref od, .int 1, .int 1])) := kp_at hk9 f_ns (nmc (Ne.symm (h_neA f_od f_ns)) nm0)
  have f_sl : h1 sl = some (.inl ((t 4), 30, .inr (.inr (.inr (.inr fs))))) := kp_at hk9 f_sl (nmc ne_sl_od nm0)
  have f_rt : h1 rt = some (.inr (1, [.int 0, .null, .int 1, .long 0, .int 0, .int 0, .int 0, .int 0, .int 0, .int sc, .int np])) := kp_at hk9 f_rt (nmc (Ne.symm (h_neA f_od f_rt)) nm0)
  have f_md : h1 md = some (.inr (0, [.ref sa, .int (nI 0)])) := kp_at hk9 f_md (nmc (Ne.symm (h_neA f_od f_md)) nm0)
  have f_sa : h1 sa = some (.inl ((t 5), n, .inr (.inr (.inr (.inr fa))))) := kp_at hk9 f_sa (nmc (h_neL (k1 := n) (k2 := 30) f_sa f_od rfl rfl (by omega)) nm0)
  have f_su : h1 su = some (.inr (4, [.int (-1), .int 0, .int sp])) := kp_at hk9 f_su (nmc (Ne.symm (h_neA f_od f_su)) nm0)
  have f_pb : h1 pb = some (.inl ((t 0), 2048, .inl f)) := kp_at hk9 f_pb (nmc (h_neK (k1 := 0) (k2 := 4) f_pb f_od rfl rfl (by decide)) nm0)
  have hkp : kx (.inr (6, [.int 0, .int 0, .null])) [pb, rt, md, su, od] h h1 := kx_trp hkp hk9 (List.forall_mem_cons.mpr ⟨Or.inl (by simp), List.forall_mem_nil _⟩)
  have f_od : h1 od = some (.inl ((t 4), 30, .inr (.inr (.inr (.inr (va_up g 0 (some rt))))))) := ho9
  have hg0 := va_up_self g 0 (some rt)
  refine lv_iconst (v := 0) hx hb d_Wr_writeSession_4 (by decide) ?_
  refine lv_istore (lv' := [(4, .int 0), (0, .ref wr), (1, .ref ns), (2, .ref md), (3, .int nu)]) hx hb d_Wr_writeSession_5 hl (by decide) rfl (fun ls hl => ?_)
  refine lv_iload hx hb d_Wr_writeSession_7 (lv_at hl 0 rfl) ?_
  refine lv_aload_n hx hb d_Wr_writeSession_9 rfl (lv_at hl 3 rfl) ?_
  refine hm_get (ci := 0) (v := .ref sa) (C := R_Me) (T := F_Me) (N := 2) hx hb hts ig_Me hown hK hH f_md rfl 0 (by decide) (hts _ mw_219) (fun _ h9 => h9) rfl d_Wr_writeSession_10 ?_
  refine hm_alen (v := nI n) hx hb hK hH 5 f_sa (ty := (.object "WriteOnceDisc$Sector")) rfl rfl d_Wr_writeSession_13 ?_
  refine lv_icmp_gt (tgt := 109) hx hb d_Wr_writeSession_14 (by decide) (fun hc5 => absurd hc5 (rmz0 hn40 hn)) (fun hc5 => ?_)
  refine lv_aload_n hx hb d_Wr_writeSession_17 rfl (lv_at hl 3 rfl) ?_
  refine hm_get (ci := 0) (v := .int (nI 0)) (C := R_Me) (T := F_Me) (N := 2) hx hb hts ig_Me hown hK hH f_md rfl 1 (by decide) (hts _ mw_214) (fun _ h9 => h9) rfl d_Wr_writeSession_18 ?_
  refine lv_topi (fun v6 e7 => ?_)
  obtain rfl : v6 = 0 := e7.trans (nI_0)
  refine lv_istore (lv' := [(5, .int 0), (4, .int 0), (0, .ref wr), (1, .ref ns), (2, .ref md), (3, .int nu)]) hx hb d_Wr_writeSession_21 hl (by decide) rfl (fun ls hl => ?_)
  refine lv_aload_n hx hb d_Wr_writeSession_23 rfl (lv_at hl 2 rfl) ?_
  refine lv_aload_n hx hb d_Wr_writeSession_24 rfl (lv_at hl 3 rfl) ?_
  refine lv_iload hx hb d_Wr_writeSession_25 (lv_at hl 0 rfl) ?_
  refine lv_bipush (v := 20) hx hb d_Wr_writeSession_27 (by decide) ?_
  refine lv_iadd hx hb d_Wr_writeSession_29 ?_
  refine hm_calli (va_runV (As := [.ref ns, .int (0 + 20)]) (b := wr) (rest := []) ⟨hx, hb, hml, hown, hts⟩ (c_Writer_place l D t G ak av h1 wr ns sl od rt _ sc np (0 + 20) f_ns f_od f_rt hg0) ⟨cw9B 2 hts mw_220 mw_222 mw_221 rfl rfl (by decide +kernel) ⟨Nat.le_of_ble_eq_true rfl, Nat.le_of_ble_eq_true rfl⟩, hts _ mw_223, hts _ mw_224⟩ (hP_V (q := (R_Wr, F_Wr, 2)) kE_ok hE hK hH f_wr rfl) rfl rfl hl.1 rfl (lv_room (Nat.le_of_ble_eq_true rfl)) d_Wr_writeSession_30 ⟨Nat.le_of_ble_eq_true rfl, Nat.le_of_ble_eq_true rfl⟩) hLo (fun r8 h9 H10 locs hp12 hH z11 hLo => ?_)
  have hz : s.heap.size ≤ H10.size := Nat.le_trans hz z11
  obtain ⟨rfl, hk9, hr9⟩ := hp12
  have hrow : rowP (.inr (6, [.int 0, .int 0, .null])) fa 0 n h9 := rowP_kp hrow hk9 (List.forall_mem_cons.mpr ⟨by rw [f_rt]; simp, List.forall_mem_nil _⟩)
  have f_wr : h9 wr = some (.inr (7, [.ref su, .ref pg])) := kp_at hk9 f_wr (nmc (h_neC f_wr f_rt (by decide)) nm0)
  have f_pg : h9 pg = some (.inr (3, [.ref pb])) := kp_at hk9 f_pg (nmc (h_neC f_pg f_rt (by decide)) nm0)
  have f_ns : h9 ns = some (.inr (2, [.ref sl, .ref od, .int 1, .int 1])) := kp_at hk9 f_ns (nmc (h_neC f_ns f_rt (by decide)) nm0)
  have f_sl : h9 sl = some (.inl ((t 4), 30, .inr (.inr (.inr (.inr fs))))) := kp_at hk9 f_sl (nmc (h_neA f_sl f_rt) nm0)
  have f_od : h9 od = some (.inl ((t 4), 30, .inr (.inr (.inr (.inr (va_up g 0 (some rt))))))) := kp_at hk9 f_od (nmc (h_neA f_od f_rt) nm0)
  have f_md : h9 md = some (.inr (0, [.ref sa, .int (nI 0)])) := kp_at hk9 f_md (nmc (h_neC f_md f_rt (by decide)) nm0)
  have f_sa : h9 sa = some (.inl ((t 5), n, .inr (.inr (.inr (.inr fa))))) := kp_at hk9 f_sa (nmc (h_neA f_sa f_rt) nm0)
  have f_su : h9 su = some (.inr (4, [.int (-1), .int 0, .int sp])) := kp_at hk9 f_su (nmc (h_neC f_su f_rt (by decide)) nm0)
  have f_pb : h9 pb = some (.inl ((t 0), 2048, .inl f)) := kp_at hk9 f_pb (nmc (h_neA f_pb f_rt) nm0)
  have hkp : kx (.inr (6, [.int 0, .int 0, .null])) [pb, rt, md, su, od] h h9 := kx_trp hkp hk9 (List.forall_mem_cons.mpr ⟨Or.inl (by simp), List.forall_mem_nil _⟩)
  have f_rt : h9 rt = some (.inr (1, [.int 0, .null, .int 1, .long 0, .int 0, .int 0, .int 0, .int 0, .int 0, .int 20, .int np])) := hr9
  refine lv_istore (lv' := [(6, .int (0 + 1)), (5, .int 0), (4, .int 0), (0, .ref wr), (1, .ref ns), (2, .ref md), (3, .int nu)]) hx hb d_Wr_writeSession_33 hl (by decide) rfl (fun ls hl => ?_)
  refine lv_aload_n hx hb d_Wr_writeSession_35 rfl (lv_at hl 5 rfl) ?_
  refine lv_iload hx hb d_Wr_writeSession_36 (lv_at hl 1 rfl) ?_
  refine lv_bipush (v := 20) hx hb d_Wr_writeSession_38 (by decide) ?_
  refine lv_iload hx hb d_Wr_writeSession_40 (lv_at hl 0 rfl) ?_
  refine lv_iadd hx hb d_Wr_writeSession_42 ?_
  refine lv_iconst (v := 1) hx hb d_Wr_writeSession_43 (by decide) ?_
  refine lv_iadd hx hb d_Wr_writeSession_44 ?_
  refine hm_calli (va_runV (As := [.int 0, .int ((20 + (0 + 1)) + 1)]) (b := md) (rest := []) ⟨hx, hb, hml, hown, hts⟩ (c_Medium_hasRoom l D t G ak av h9 md sa n fa (nI 0) 0 (20 + (0 + 1) + 1) f_md f_sa (rmz22 hn40 hn)) ⟨cw9B 2 hts mw_225 mw_226 mw_163 rfl rfl (by decide +kernel) ⟨Nat.le_of_ble_eq_true rfl, Nat.le_of_ble_eq_true rfl⟩, hts _ mw_227, hts _ mw_228⟩ (hP_V (q := (R_Me, F_Me, 2)) kE_ok hE hK hH f_md rfl) rfl rfl hl.1 rfl (lv_room (Nat.le_of_ble_eq_true rfl)) d_Wr_writeSession_45 ⟨Nat.le_of_ble_eq_true rfl, Nat.le_of_ble_eq_true rfl⟩) hLo (fun r13 h14 H15 locs hp17 hH z16 hLo => ?_)
  have hz : s.heap.size ≤ H15.size := Nat.le_trans hz z16
  obtain ⟨rfl, rfl⟩ := hp17
  refine lv_if_ne (tgt := 54) hx hb d_Wr_writeSession_48 (by decide) (fun hc18 => ?_) (fun hc18 => absurd hc18 (by decide))
  refine lv_aload_n hx hb d_Wr_writeSession_54 rfl (lv_at hl 3 rfl) ?_
  refine lv_aload_n hx hb d_Wr_writeSession_55 rfl (lv_at hl 4 rfl) ?_
  refine lv_aload_n hx hb d_Wr_writeSession_56 rfl (lv_at hl 5 rfl) ?_
  refine lv_iload hx hb d_Wr_writeSession_57 (lv_at hl 1 rfl) ?_
  refine hm_calli (va_runV (As := [.ref ns, .ref md, .int 0]) (b := wr) (rest := []) ⟨hx, hb, hml, hown, hts⟩ (c_Writer_head l D t G ak av h9 wr pg pb ns sl od rt md sa su n fs _ fa 20 np sp f_wr f_pg f_ns f_sl f_od f_rt f_md f_sa f_su ⟨f, hfit, f_pb⟩ hf0 hg0 hrow hn40 hn) ⟨cw9B 3 hts mw_229 mw_230 mw_221 rfl rfl (by decide +kernel) ⟨Nat.le_of_ble_eq_true rfl, Nat.le_of_ble_eq_true rfl⟩, hts _ mw_231, hts _ mw_232⟩ (hP_V (q := (R_Wr, F_Wr, 2)) kE_ok hE hK hH f_wr rfl) rfl rfl hl.1 rfl (lv_room (Nat.le_of_ble_eq_true rfl)) d_Wr_writeSession_59 ⟨Nat.le_of_ble_eq_true rfl, Nat.le_of_ble_eq_true rfl⟩) hLo (fun r19 h20 H21 locs hp23 hH z22 hLo => ?_)
  have hz : s.heap.size ≤ H21.size := Nat.le_trans hz z22
  obtain ⟨rfl, hk9, hrow, hr9, hm9, hs9, f, hfit, f_pb2⟩ := hp23
  have f_wr : h20 wr = some (.inr (7, [.ref su, .ref pg])) := kx_at hk9 f_wr (nmc (Ne.symm (h_neA f_pb f_wr)) (nmc (h_neC f_wr f_rt (by decide)) (nmc (h_neC f_wr f_md (by decide)) (nmc (h_neC f_wr f_su (by decide)) nm0)))) (by simp)
  have f_pg : h20 pg = some (.inr (3, [.ref pb])) := kx_at hk9 f_pg (nmc (Ne.symm (h_neA f_pb f_pg)) (nmc (h_neC f_pg f_rt (by decide)) (nmc (h_neC f_pg f_md (by decide)) (nmc (h_neC f_pg f_su (by decide)) nm0)))) (by simp)
  have f_ns : h20 ns = some (.inr (2, [.ref sl, .ref od, .int 1, .int 1])) := kx_at hk9 f_ns (nmc (Ne.symm (h_neA f_pb f_ns)) (nmc (h_neC f_ns f_rt (by decide)) (nmc (h_neC f_ns f_md (by decide)) (nmc (h_neC f_ns f_su (by decide)) nm0)))) (by simp)
  have f_sl : h20 sl = some (.inl ((t 4), 30, .inr (.inr (.inr (.inr fs))))) := kx_at hk9 f_sl (nmc (h_neK (k1 := 4) (k2 := 0) f_sl f_pb rfl rfl (by decide)) (nmc (h_neA f_sl f_rt) (nmc (h_neA f_sl f_md) (nmc (h_neA f_sl f_su) nm0)))) (by simp)
  have f_od : h20 od = some (.inl ((t 4), 30, .inr (.inr (.inr (.inr (va_up g 0 (some rt))))))) := kx_at hk9 f_od (nmc (h_neK (k1 := 4) (k2 := 0) f_od f_pb rfl rfl (by decide)) (nmc (h_neA f_od f_rt) (nmc (h_neA f_od f_md) (nmc (h_neA f_od f_su) nm0)))) (by simp)
  have f_sa : h20 sa = some (.inl ((t 5), n, .inr (.inr (.inr (.inr fa))))) := kx_at hk9 f_sa (nmc (h_neK (k1 := 4) (k2 := 0) f_sa f_pb rfl rfl (by decide)) (nmc (h_neA f_sa f_rt) (nmc (h_neA f_sa f_md) (nmc (h_neA f_sa f_su) nm0)))) (by simp)
  have hkp : kx (.inr (6, [.int 0, .int 0, .null])) [pb, rt, md, su, od] h h20 := kx_trx hkp hk9 (List.forall_mem_cons.mpr ⟨Or.inl (by simp), List.forall_mem_cons.mpr ⟨Or.inl (by simp), List.forall_mem_cons.mpr ⟨Or.inl (by simp), List.forall_mem_cons.mpr ⟨Or.inl (by simp), List.forall_mem_nil _⟩⟩⟩⟩)
  have f_rt : h20 rt = some (.inr (1, [.int 0, .null, .int 1, .long 0, .int 0, .int 0, .int 0, .int 0, .int 0, .int 20, .int (0 + 1)])) := hr9
  have f_md : h20 md = some (.inr (0, [.ref sa, .int (nI (19 + 1))])) := hm9
  have f_su : h20 su = some (.inr (4, [.int (-1), .int 0, .int (sp + 1 + 1 + 1 + 1)])) := hs9
  have f_pb : h20 pb = some (.inl ((t 0), 2048, .inl f)) := f_pb2
  refine lv_istore (lv' := [(7, .int 1), (6, .int (0 + 1)), (5, .int 0), (4, .int 0), (0, .ref wr), (1, .ref ns), (2, .ref md), (3, .int nu)]) hx hb d_Wr_writeSession_62 hl (by decide) rfl (fun ls hl => ?_)
  refine lv_iload hx hb d_Wr_writeSession_64 (lv_at hl 0 rfl) ?_
  refine lv_iconst (v := 1) hx hb d_Wr_writeSession_66 (by decide) ?_
  refine lv_icmp_ne (tgt := 78) hx hb d_Wr_writeSession_67 (by decide) (fun hc24 => absurd rfl hc24) (fun hc24 => ?_)
  refine lv_aload_n hx hb d_Wr_writeSession_70 rfl (lv_at hl 4 rfl) ?_
  refine lv_aload_n hx hb d_Wr_writeSession_71 rfl (lv_at hl 5 rfl) ?_
  refine lv_aload_n hx hb d_Wr_writeSession_72 rfl (lv_at hl 6 rfl) ?_
  refine hm_calli (va_runV (As := [.ref ns, .ref md]) (b := wr) (rest := []) ⟨hx, hb, hml, hown, hts⟩ (c_Writer_dirs l D t G ak av h20 wr pg pb ns sl od rt md sa su n fs _ fa (0 + 1) (sp + 1 + 1 + 1 + 1) f_wr f_pg f_ns f_sl f_od f_rt f_md f_sa f_su ⟨f, hfit, f_pb⟩ hf0 hg0 hrow hn40 hn) ⟨cw9B 2 hts mw_233 mw_234 mw_221 rfl rfl (by decide +kernel) ⟨Nat.le_of_ble_eq_true rfl, Nat.le_of_ble_eq_true rfl⟩, hts _ mw_235, hts _ mw_236⟩ (hP_V (q := (R_Wr, F_Wr, 2)) kE_ok hE hK hH f_wr rfl) rfl rfl hl.1 rfl (lv_room (Nat.le_of_ble_eq_true rfl)) d_Wr_writeSession_73 ⟨Nat.le_of_ble_eq_true rfl, Nat.le_of_ble_eq_true rfl⟩) hLo (fun r25 h26 H27 locs hp29 hH z28 hLo => ?_)
  have hz : s.heap.size ≤ H27.size := Nat.le_trans hz z28
  obtain ⟨rfl, hk9, hrow, hm9, hs9, f, hfit, f_pb2⟩ := hp29
  have f_wr : h26 wr = some (.inr (7, [.ref su, .ref pg])) := kx_at hk9 f_wr (nmc (Ne.symm (h_neA f_pb f_wr)) (nmc (h_neC f_wr f_md (by decide)) (nmc (h_neC f_wr f_su (by decide)) nm0))) (by simp)
  have f_pg : h26 pg = some (.inr (3, [.ref pb])) := kx_at hk9 f_pg (nmc (Ne.symm (h_neA f_pb f_pg)) (nmc (h_neC f_pg f_md (by decide)) (nmc (h_neC f_pg f_su (by decide)) nm0))) (by simp)
  have f_ns : h26 ns = some (.inr (2, [.ref sl, .ref od, .int 1, .int 1])) := kx_at hk9 f_ns (nmc (Ne.symm (h_neA f_pb f_ns)) (nmc (h_neC f_ns f_md (by decide)) (nmc (h_neC f_ns f_su (by decide)) nm0))) (by simp)
  have f_sl : h26 sl = some (.inl ((t 4), 30, .inr (.inr (.inr (.inr fs))))) := kx_at hk9 f_sl (nmc (h_neK (k1 := 4) (k2 := 0) f_sl f_pb rfl rfl (by decide)) (nmc (h_neA f_sl f_md) (nmc (h_neA f_sl f_su) nm0))) (by simp)
  have f_od : h26 od = some (.inl ((t 4), 30, .inr (.inr (.inr (.inr (va_up g 0 (some rt))))))) := kx_at hk9 f_od (nmc (h_neK (k1 := 4) (k2 := 0) f_od f_pb rfl rfl (by decide)) (nmc (h_neA f_od f_md) (nmc (h_neA f_od f_su) nm0))) (by simp)
  have f_rt : h26 rt = some (.inr (1, [.int 0, .null, .int 1, .long 0, .int 0, .int 0, .int 0, .int 0, .int 0, .int 20, .int (0 + 1)])) := kx_at hk9 f_rt (nmc (Ne.symm (h_neA f_pb f_rt)) (nmc (h_neC f_rt f_md (by decide)) (nmc (h_neC f_rt f_su (by decide)) nm0))) (by simp)
  have f_sa : h26 sa = some (.inl ((t 5), n, .inr (.inr (.inr (.inr fa))))) := kx_at hk9 f_sa (nmc (h_neK (k1 := 4) (k2 := 0) f_sa f_pb rfl rfl (by decide)) (nmc (h_neA f_sa f_md) (nmc (h_neA f_sa f_su) nm0))) (by simp)
  have hkp : kx (.inr (6, [.int 0, .int 0, .null])) [pb, rt, md, su, od] h h26 := kx_trx hkp hk9 (List.forall_mem_cons.mpr ⟨Or.inl (by simp), List.forall_mem_cons.mpr ⟨Or.inl (by simp), List.forall_mem_cons.mpr ⟨Or.inl (by simp), List.forall_mem_nil _⟩⟩⟩)
  have f_md : h26 md = some (.inr (0, [.ref sa, .int (nI (20 + 1))])) := hm9
  have f_su : h26 su = some (.inr (4, [.int (-1), .int 0, .int (sp + 1 + 1 + 1 + 1 + 1)])) := hs9
  have f_pb : h26 pb = some (.inl ((t 0), 2048, .inl f)) := f_pb2
  refine lv_istore (lv' := [(7, .int 1), (6, .int (0 + 1)), (5, .int 0), (4, .int 0), (0, .ref wr), (1, .ref ns), (2, .ref md), (3, .int nu)]) hx hb d_Wr_writeSession_76 hl (by decide) rfl (fun ls hl => ?_)
  refine lv_iload hx hb d_Wr_writeSession_78 (lv_at hl 0 rfl) ?_
  refine lv_iconst (v := 1) hx hb d_Wr_writeSession_80 (by decide) ?_
  refine lv_icmp_ne (tgt := 94) hx hb d_Wr_writeSession_81 (by decide) (fun hc30 => absurd rfl hc30) (fun hc30 => ?_)
  refine lv_aload_n hx hb d_Wr_writeSession_84 rfl (lv_at hl 4 rfl) ?_
  refine lv_aload_n hx hb d_Wr_writeSession_85 rfl (lv_at hl 6 rfl) ?_
  refine lv_iload hx hb d_Wr_writeSession_86 (lv_at hl 2 rfl) ?_
  refine lv_iload_n hx hb d_Wr_writeSession_88 rfl (lv_at hl 7 rfl) ?_
  refine hm_calli (va_runV (As := [.ref md, .int 0, .int nu]) (b := wr) (rest := []) ⟨hx, hb, hml, hown, hts⟩ (c_Writer_mark l D t G ak av h26 wr pg pb md sa su n fa (sp + 1 + 1 + 1 + 1 + 1) nu f_wr f_pg f_md f_sa f_su ⟨f, hfit, f_pb⟩ hrow hn40 hn) ⟨cw9B 3 hts mw_237 mw_238 mw_221 rfl rfl (by decide +kernel) ⟨Nat.le_of_ble_eq_true rfl, Nat.le_of_ble_eq_true rfl⟩, hts _ mw_239, hts _ mw_240⟩ (hP_V (q := (R_Wr, F_Wr, 2)) kE_ok hE hK hH f_wr rfl) rfl rfl hl.1 rfl (lv_room (Nat.le_of_ble_eq_true rfl)) d_Wr_writeSession_89 ⟨Nat.le_of_ble_eq_true rfl, Nat.le_of_ble_eq_true rfl⟩) hLo (fun r31 h32 H33 locs hp35 hH z34 hLo => ?_)
  have hz : s.heap.size ≤ H33.size := Nat.le_trans hz z34
  obtain ⟨rfl, hk9⟩ := hp35
  have f_wr : h32 wr = some (.inr (7, [.ref su, .ref pg])) := kx_at hk9 f_wr (nmc (Ne.symm (h_neA f_pb f_wr)) (nmc (h_neC f_wr f_md (by decide)) (nmc (h_neC f_wr f_su (by decide)) nm0))) (by simp)
  have f_pg : h32 pg = some (.inr (3, [.ref pb])) := kx_at hk9 f_pg (nmc (Ne.symm (h_neA f_pb f_pg)) (nmc (h_neC f_pg f_md (by decide)) (nmc (h_neC f_pg f_su (by decide)) nm0))) (by simp)
  have f_ns : h32 ns = some (.inr (2, [.ref sl, .ref od, .int 1, .int 1])) := kx_at hk9 f_ns (nmc (Ne.symm (h_neA f_pb f_ns)) (nmc (h_neC f_ns f_md (by decide)) (nmc (h_neC f_ns f_su (by decide)) nm0))) (by simp)
  have f_sl : h32 sl = some (.inl ((t 4), 30, .inr (.inr (.inr (.inr fs))))) := kx_at hk9 f_sl (nmc (h_neK (k1 := 4) (k2 := 0) f_sl f_pb rfl rfl (by decide)) (nmc (h_neA f_sl f_md) (nmc (h_neA f_sl f_su) nm0))) (by simp)
  have f_od : h32 od = some (.inl ((t 4), 30, .inr (.inr (.inr (.inr (va_up g 0 (some rt))))))) := kx_at hk9 f_od (nmc (h_neK (k1 := 4) (k2 := 0) f_od f_pb rfl rfl (by decide)) (nmc (h_neA f_od f_md) (nmc (h_neA f_od f_su) nm0))) (by simp)
  have f_rt : h32 rt = some (.inr (1, [.int 0, .null, .int 1, .long 0, .int 0, .int 0, .int 0, .int 0, .int 0, .int 20, .int (0 + 1)])) := kx_at hk9 f_rt (nmc (Ne.symm (h_neA f_pb f_rt)) (nmc (h_neC f_rt f_md (by decide)) (nmc (h_neC f_rt f_su (by decide)) nm0))) (by simp)
  have f_sa : h32 sa = some (.inl ((t 5), n, .inr (.inr (.inr (.inr fa))))) := kx_at hk9 f_sa (nmc (h_neK (k1 := 4) (k2 := 0) f_sa f_pb rfl rfl (by decide)) (nmc (h_neA f_sa f_md) (nmc (h_neA f_sa f_su) nm0))) (by simp)
  have hkp : kx (.inr (6, [.int 0, .int 0, .null])) [pb, rt, md, su, od] h h32 := kx_trx hkp hk9 (List.forall_mem_cons.mpr ⟨Or.inl (by simp), List.forall_mem_cons.mpr ⟨Or.inl (by simp), List.forall_mem_cons.mpr ⟨Or.inl (by simp), List.forall_mem_nil _⟩⟩⟩)
  refine lv_istore (lv' := [(7, .int 1), (6, .int (0 + 1)), (5, .int 0), (4, .int 0), (0, .ref wr), (1, .ref ns), (2, .ref md), (3, .int nu)]) hx hb d_Wr_writeSession_92 hl (by decide) rfl (fun ls hl => ?_)
  refine lv_iload hx hb d_Wr_writeSession_94 (lv_at hl 0 rfl) ?_
  refine lv_iconst (v := 2) hx hb d_Wr_writeSession_96 (by decide) ?_
  refine lv_icmp_eq (tgt := 103) hx hb d_Wr_writeSession_97 (by decide) (fun hc36 => absurd hc36 (by decide)) (fun hc36 => ?_)
  refine lv_iload hx hb d_Wr_writeSession_100 (lv_at hl 0 rfl) ?_
  exact W.iret (v := 1) hx hb hr (fun t9 ht hW => ⟨1, h32, rfl, ⟨rfl, hkp⟩, by rw [ht]; exact hH, by rw [ht]; exact hz⟩) hLo d_Wr_writeSession_102
end
section
set_option maxRecDepth 100000 in
theorem mw_241 : Cond.methodLink R_Di 1 objectInit ∈ lw_g := lw_gin (List.mem_append_right _ (List.mem_of_getElem? (i := 27) rfl)) (by decide +kernel)
set_option maxRecDepth 100000 in
theorem mw_242 : Cond.classLink R_Di 7 R_Wr ∈ lw_g := lw_gin (List.mem_append_right _ (List.mem_of_getElem? (i := 30) rfl)) (by decide +kernel)
set_option maxRecDepth 100000 in
theorem mw_243 : Cond.instantiable R_Wr 2 ∈ lw_g := lw_gin (List.mem_append_right _ (List.mem_of_getElem? (i := 31) rfl)) (by decide +kernel)
set_option maxRecDepth 100000 in
theorem mw_244 : Cond.code y_Wr_init b_Wr_init 1 none ∈ lw_g := lw_gin (List.mem_append_right _ (List.mem_of_getElem? (i := 34) rfl)) (by decide +kernel)
set_option maxRecDepth 100000 in
theorem mw_245 : Cond.instanceMethod y_Wr_init ∈ lw_g := lw_gin (List.mem_append_right _ (List.mem_of_getElem? (i := 33) rfl)) (by decide +kernel)
set_option maxRecDepth 100000 in
theorem mw_246 : Cond.fieldLink R_Di 10 "WriteOnceDisc" "writer" "LWriteOnceDisc$Writer;" ∈ lw_g := lw_gin (List.mem_append_right _ (List.mem_of_getElem? (i := 236) rfl)) (by decide +kernel)
set_option maxRecDepth 100000 in
theorem mw_247 : Cond.classLink R_Di 16 R_Re ∈ lw_g := lw_gin (List.mem_append_right _ (List.mem_of_getElem? (i := 76) rfl)) (by decide +kernel)
set_option maxRecDepth 100000 in
theorem mw_248 : Cond.instantiable R_Re 5 ∈ lw_g := lw_gin (List.mem_append_right _ (List.mem_of_getElem? (i := 77) rfl)) (by decide +kernel)
set_option maxRecDepth 100000 in
theorem mw_249 : Cond.initialized R_Re ∈ lw_g := lw_gin (List.mem_append_right _ (List.mem_of_getElem? (i := 5) rfl)) (by decide +kernel)
set_option maxRecDepth 100000 in
theorem mw_250 : Cond.code y_Re_init b_Re_init 1 none ∈ lw_g := lw_gin (List.mem_append_right _ (List.mem_of_getElem? (i := 80) rfl)) (by decide +kernel)
set_option maxRecDepth 100000 in
theorem mw_251 : Cond.instanceMethod y_Re_init ∈ lw_g := lw_gin (List.mem_append_right _ (List.mem_of_getElem? (i := 79) rfl)) (by decide +kernel)
set_option maxRecDepth 100000 in
theorem mw_252 : Cond.fieldLink R_Di 19 "WriteOnceDisc" "reader" "LWriteOnceDisc$Reader;" ∈ lw_g := lw_gin (List.mem_append_right _ (List.mem_of_getElem? (i := 237) rfl)) (by decide +kernel)
set_option maxRecDepth 100000 in
theorem mw_253 : Cond.classLink R_Di 23 R_Ns ∈ lw_g := lw_gin (List.mem_append_right _ (List.mem_of_getElem? (i := 170) rfl)) (by decide +kernel)
set_option maxRecDepth 100000 in
theorem mw_254 : Cond.instantiable R_Ns 4 ∈ lw_g := lw_gin (List.mem_append_right _ (List.mem_of_getElem? (i := 171) rfl)) (by decide +kernel)
set_option maxRecDepth 100000 in
theorem mw_255 : Cond.code y_Ns_init b_Ns_init 2 none ∈ lw_g := lw_gin (List.mem_append_right _ (List.mem_of_getElem? (i := 174) rfl)) (by decide +kernel)
set_option maxRecDepth 100000 in
theorem mw_256 : Cond.methodLink R_Di 25 y_Ns_init ∈ lw_g := lw_gin (List.mem_append_right _ (List.mem_of_getElem? (i := 172) rfl)) (by decide +kernel)
set_option maxRecDepth 100000 in
theorem mw_257 : Cond.instanceMethod y_Ns_init ∈ lw_g := lw_gin (List.mem_append_right _ (List.mem_of_getElem? (i := 173) rfl)) (by decide +kernel)
set_option maxRecDepth 100000 in
theorem mw_258 : Cond.fieldLink R_Di 26 "WriteOnceDisc" "planned" "LWriteOnceDisc$Nodes;" ∈ lw_g := lw_gin (List.mem_append_right _ (List.mem_of_getElem? (i := 238) rfl)) (by decide +kernel)
set_option maxRecDepth 100000 in
theorem mw_259 : Cond.fieldLink R_Di 30 "WriteOnceDisc" "spare" "LWriteOnceDisc$Medium;" ∈ lw_g := lw_gin (List.mem_append_right _ (List.mem_of_getElem? (i := 240) rfl)) (by decide +kernel)
set_option maxRecDepth 100000 in
theorem mw_260 : Cond.fieldLink R_Di 34 "WriteOnceDisc" "lastNumber" "I" ∈ lw_g := lw_gin (List.mem_append_right _ (List.mem_of_getElem? (i := 241) rfl)) (by decide +kernel)
set_option maxRecDepth 100000 in
theorem mw_261 : Cond.fieldLink R_Di 38 "WriteOnceDisc" "isOpen" "Z" ∈ lw_g := lw_gin (List.mem_append_right _ (List.mem_of_getElem? (i := 242) rfl)) (by decide +kernel)
set_option maxRecDepth 100000 in
theorem mw_262 : Cond.fieldLink R_Di 42 "WriteOnceDisc" "opened" "LWriteOnceDisc$Nodes;" ∈ lw_g := lw_gin (List.mem_append_right _ (List.mem_of_getElem? (i := 243) rfl)) (by decide +kernel)
set_option maxRecDepth 100000 in
theorem mw_263 : Cond.fieldLink R_Di 45 "WriteOnceDisc" "scratch" "LWriteOnceDisc$Nodes;" ∈ lw_g := lw_gin (List.mem_append_right _ (List.mem_of_getElem? (i := 244) rfl)) (by decide +kernel)
set_option maxRecDepth 100000 in
theorem mw_264 : Cond.classLink R_Di 48 R_Me ∈ lw_g := lw_gin (List.mem_append_right _ (List.mem_of_getElem? (i := 197) rfl)) (by decide +kernel)
set_option maxRecDepth 100000 in
theorem mw_265 : Cond.instantiable R_Me 2 ∈ lw_g := lw_gin (List.mem_append_right _ (List.mem_of_getElem? (i := 198) rfl)) (by decide +kernel)
set_option maxRecDepth 100000 in
theorem mw_266 : Cond.code y_Me_init b_Me_init 3 none ∈ lw_g := lw_gin (List.mem_append_right _ (List.mem_of_getElem? (i := 201) rfl)) (by decide +kernel)
set_option maxRecDepth 100000 in
theorem mw_267 : Cond.methodLink R_Di 50 y_Me_init ∈ lw_g := lw_gin (List.mem_append_right _ (List.mem_of_getElem? (i := 199) rfl)) (by decide +kernel)
set_option maxRecDepth 100000 in
theorem mw_268 : Cond.instanceMethod y_Me_init ∈ lw_g := lw_gin (List.mem_append_right _ (List.mem_of_getElem? (i := 200) rfl)) (by decide +kernel)
set_option maxRecDepth 100000 in
theorem mw_269 : Cond.fieldLink R_Di 53 "WriteOnceDisc" "medium" "LWriteOnceDisc$Medium;" ∈ lw_g := lw_gin (List.mem_append_right _ (List.mem_of_getElem? (i := 239) rfl)) (by decide +kernel)
theorem d_Di_init_0 : decode b_Di_init 0 = .ok (.aload_n 0, 1) := by decide +kernel
theorem d_Di_init_1 : decode b_Di_init 1 = .ok (.invokespecial 1, 3) := by decide +kernel
theorem d_Di_init_4 : decode b_Di_init 4 = .ok (.aload_n 0, 1) := by decide +kernel
theorem d_Di_init_5 : decode b_Di_init 5 = .ok (.new 7, 3) := by decide +kernel
theorem d_Di_init_8 : decode b_Di_init 8 = .ok (.dup, 1) := by decide +kernel
theorem d_Di_init_9 : decode b_Di_init 9 = .ok (.invokespecial 9, 3) := by decide +kernel
theorem d_Di_init_12 : decode b_Di_init 12 = .ok (.putfield 10, 3) := by decide +kernel
theorem d_Di_init_15 : decode b_Di_init 15 = .ok (.aload_n 0, 1) := by decide +kernel
theorem d_Di_init_16 : decode b_Di_init 16 = .ok (.new 16, 3) := by decide +kernel
theorem d_Di_init_19 : decode b_Di_init 19 = .ok (.dup, 1) := by decide +kernel
theorem d_Di_init_20 : decode b_Di_init 20 = .ok (.invokespecial 18, 3) := by decide +kernel
theorem d_Di_init_23 : decode b_Di_init 23 = .ok (.putfield 19, 3) := by decide +kernel
theorem d_Di_init_26 : decode b_Di_init 26 = .ok (.aload_n 0, 1) := by decide +kernel
theorem d_Di_init_27 : decode b_Di_init 27 = .ok (.new 23, 3) := by decide +kernel
theorem d_Di_init_30 : decode b_Di_init 30 = .ok (.dup, 1) := by decide +kernel
theorem d_Di_init_31 : decode b_Di_init 31 = .ok (.invokespecial 25, 3) := by decide +kernel
theorem d_Di_init_34 : decode b_Di_init 34 = .ok (.putfield 26, 3) := by decide +kernel
theorem d_Di_init_37 : decode b_Di_init 37 = .ok (.aload_n 0, 1) := by decide +kernel
theorem d_Di_init_38 : decode b_Di_init 38 = .ok (.aconst_null, 1) := by decide +kernel
theorem d_Di_init_39 : decode b_Di_init 39 = .ok (.putfield 30, 3) := by decide +kernel
theorem d_Di_init_42 : decode b_Di_init 42 = .ok (.aload_n 0, 1) := by decide +kernel
theorem d_Di_init_43 : decode b_Di_init 43 = .ok (.iconst 0, 1) := by decide +kernel
theorem d_Di_init_44 : decode b_Di_init 44 = .ok (.putfield 34, 3) := by decide +kernel
theorem d_Di_init_47 : decode b_Di_init 47 = .ok (.aload_n 0, 1) := by decide +kernel
theorem d_Di_init_48 : decode b_Di_init 48 = .ok (.iconst 0, 1) := by decide +kernel
theorem d_Di_init_49 : decode b_Di_init 49 = .ok (.putfield 38, 3) := by decide +kernel
theorem d_Di_init_52 : decode b_Di_init 52 = .ok (.aload_n 0, 1) := by decide +kernel
theorem d_Di_init_53 : decode b_Di_init 53 = .ok (.new 23, 3) := by decide +kernel
theorem d_Di_init_56 : decode b_Di_init 56 = .ok (.dup, 1) := by decide +kernel
theorem d_Di_init_57 : decode b_Di_init 57 = .ok (.invokespecial 25, 3) := by decide +kernel
theorem d_Di_init_60 : decode b_Di_init 60 = .ok (.putfield 42, 3) := by decide +kernel
theorem d_Di_init_63 : decode b_Di_init 63 = .ok (.aload_n 0, 1) := by decide +kernel
theorem d_Di_init_64 : decode b_Di_init 64 = .ok (.new 23, 3) := by decide +kernel
theorem d_Di_init_67 : decode b_Di_init 67 = .ok (.dup, 1) := by decide +kernel
theorem d_Di_init_68 : decode b_Di_init 68 = .ok (.invokespecial 25, 3) := by decide +kernel
theorem d_Di_init_71 : decode b_Di_init 71 = .ok (.putfield 45, 3) := by decide +kernel
theorem d_Di_init_74 : decode b_Di_init 74 = .ok (.aload_n 0, 1) := by decide +kernel
theorem d_Di_init_75 : decode b_Di_init 75 = .ok (.new 48, 3) := by decide +kernel
theorem d_Di_init_78 : decode b_Di_init 78 = .ok (.dup, 1) := by decide +kernel
theorem d_Di_init_79 : decode b_Di_init 79 = .ok (.iload_n 1, 1) := by decide +kernel
theorem d_Di_init_80 : decode b_Di_init 80 = .ok (.bipush 40, 2) := by decide +kernel
theorem d_Di_init_82 : decode b_Di_init 82 = .ok (.if_icmp .lt 14, 3) := by decide +kernel
theorem d_Di_init_96 : decode b_Di_init 96 = .ok (.bipush 100, 2) := by decide +kernel
theorem d_Di_init_98 : decode b_Di_init 98 = .ok (.invokespecial 50, 3) := by decide +kernel
theorem d_Di_init_101 : decode b_Di_init 101 = .ok (.putfield 53, 3) := by decide +kernel
theorem d_Di_init_104 : decode b_Di_init 104 = .ok (.return_, 1) := by decide +kernel
theorem d_Di_init_85 : decode b_Di_init 85 = .ok (.iload_n 1, 1) := by decide +kernel
theorem d_Di_init_86 : decode b_Di_init 86 = .ok (.sipush 200, 3) := by decide +kernel
theorem d_Di_init_89 : decode b_Di_init 89 = .ok (.if_icmp .gt 7, 3) := by decide +kernel
theorem d_Di_init_92 : decode b_Di_init 92 = .ok (.iload_n 1, 1) := by decide +kernel
theorem d_Di_init_93 : decode b_Di_init 93 = .ok (.goto 5, 3) := by decide +kernel
/-- a fresh object of the class, of n sectors -/
def FrX (t : Nat → ClassId) (h : hM) (x n : Nat) : Prop := ∃ (wr rd ns op sr md su pg pb sl od sa : Nat) (fs g fa : Nat → Option Nat), h x = some (.inr (8, [.ref wr, .ref rd, .ref ns, .ref md, .null, .int 0, .int 0, .ref op, .ref sr])) ∧ h wr = some (.inr (7, [.ref su, .ref pg])) ∧ h su = some (.inr (4, [.int (-1), .int 0, .int 0])) ∧ h pg = some (.inr (3, [.ref pb])) ∧ h pb = some (.inl ((t 0), 2048, .inl (fun _ => 0))) ∧ h ns = some (.inr (2, [.ref sl, .ref od, .int 1, .int 1])) ∧ h sl = some (.inl ((t 4), 30, .inr (.inr (.inr (.inr fs))))) ∧ h od = some (.inl ((t 4), 30, .inr (.inr (.inr (.inr g))))) ∧ (∀ j, j < 30 → g j = fs j) ∧ rowP (.inr (1, [.int 0, .null, .int 1, .long 0, .int 0, .int 0, .int 0, .int 0, .int 0, .int 0, .int 1])) fs 0 30 h ∧ h md = some (.inr (0, [.ref sa, .int (nI 0)])) ∧ h sa = some (.inl ((t 5), n, .inr (.inr (.inr (.inr fa))))) ∧ rowP (.inr (6, [.int 0, .int 0, .null])) fa 0 n h ∧ sl ≠ od ∧ 40 ≤ n ∧ n ≤ 200
theorem FrX_kp {t : Nat → ClassId} {h h' : hM} {x n m : Nat} {vs : List Value} (hX : FrX t h x n) (hk : kp [m] h h') (hm : h m = some (.inr (9, vs))) : FrX t h' x n := by
  obtain ⟨wr, rd, ns, op, sr, md, su, pg, pb, sl, od, sa, fs, g, fa, f_x, f_wr, f_su, f_pg, f_pb, f_ns, f_sl, f_od, hgf, hnd, f_md, f_sa, hrow, ne_sl_od, hn40, hn⟩ := hX
  exact ⟨wr, rd, ns, op, sr, md, su, pg, pb, sl, od, sa, fs, g, fa, kp_at hk f_x (nmc (h_neC f_x hm (by decide)) nm0), kp_at hk f_wr (nmc (h_neC f_wr hm (by decide)) nm0), kp_at hk f_su (nmc (h_neC f_su hm (by decide)) nm0), kp_at hk f_pg (nmc (h_neC f_pg hm (by decide)) nm0), kp_at hk f_pb (nmc (h_neA f_pb hm) nm0), kp_at hk f_ns (nmc (h_neC f_ns hm (by decide)) nm0), kp_at hk f_sl (nmc (h_neA f_sl hm) nm0), kp_at hk f_od (nmc (h_neA f_od hm) nm0), hgf, rowP_kp hnd hk (List.forall_mem_cons.mpr ⟨by rw [hm]; simp, List.forall_mem_nil _⟩), kp_at hk f_md (nmc (h_neC f_md hm (by decide)) nm0), kp_at hk f_sa (nmc (h_neA f_sa hm) nm0), rowP_kp hrow hk (List.forall_mem_cons.mpr ⟨by rw [hm]; simp, List.forall_mem_nil _⟩), ne_sl_od, hn40, hn⟩
/-- the number of sectors that a number asks for -/
def nsz (v : Int32) : Nat := if 40 ≤ v ∧ v ≤ 200 then v.toNatClampNeg else 100
theorem nsz_lo {v : Int32} (h : v < 40) : nsz v = 100 := if_neg (fun q => absurd q.1 (Int32.not_le.mpr h))
theorem nsz_hi {v : Int32} (h : 200 < v) : nsz v = 100 := if_neg (fun q => absurd q.2 (Int32.not_le.mpr h))
theorem nsz_in {v : Int32} (h : ¬ v < 40) (h2 : ¬ 200 < v) : 40 ≤ nsz v ∧ nsz v ≤ 200 ∧ v = nI (nsz v) := by
  have a := Int32.not_lt.mp h
  have b := Int32.not_lt.mp h2
  have e : nsz v = v.toNatClampNeg := if_pos ⟨a, b⟩
  rw [Int32.le_iff_toInt_le] at a b
  have a' : (40 : Int) ≤ v.toInt := a
  have b' : v.toInt ≤ 200 := b
  obtain ⟨j, hj, rfl⟩ := nI_of (x := v) (by rw [Int32.lt_iff_toInt_lt, Int32.toInt_zero]; omega)
  rw [nI_toInt hj] at a' b'
  rw [e, nI_clamp hj]
  exact ⟨by omega, by omega, rfl⟩

set_option maxHeartbeats 4000000 in
set_option maxRecDepth 100000 in
theorem c_Di_init (l : Launch) (D : va_G) (t : Nat → ClassId) (G : Heap) (ak av : Nat → Nat) (h : hM) (x : Nat) (v : Int32) (f_x : h x = some (.inr (8, [.null, .null, .null, .null, .null, .int 0, .int 0, .null, .null]))) : Met l y_Di_init (.code y_Di_init b_Di_init 2 none :: lw_g) { frames := 3, cells := 309, slots := 4535, locals := 54 } (hP (kE D t G ak av) D vwCl G h [.ref x, .int v]) (hQv D vwCl G (fun h' => kp [x] h h' ∧ FrX t h' x (nsz v))) 309 4535 (fun q => G.size ≤ q) := by
  refine Met.ofW (cc := b_Di_init) (maxL := 2) (ret := none) (by decide) rfl ?_
  intro p e s m args below meth c s₁ Bd hml hv
  obtain ⟨ha, hE, hH⟩ := hv
  have hx := Bd.exec
  have hb := Bd.bytes
  have hr := Bd.returns
  have hts : ∀ w ∈ lw_g, w.before args s = true := fun w hw => atoms_spec (ws := (.code y_Di_init b_Di_init 2 none :: lw_g)) Bd.pre w (List.mem_cons_of_mem _ hw)
  have hown : s.vm.findClass R_Di = some m.cls := findClass_of_methodNamed Bd.named
  have hlocks := Bd.notSynchronized
  have hin : meth.name = "<init>" := (name_of_methodNamed Bd.named Bd.method).1
  have hK := hE.1
  have hH0 := hH
  have hLo : hLc G.size [] := hLc_nil
  have hz : s.heap.size ≤ s.heap.size := Nat.le_refl _
  have hkp : kp [x] h h := kp_rf
  have hl := lv_entry [.ref x, .int v] (n := 2) (Nat.le_of_ble_eq_true rfl)
  rw [show entryFrame m args 2 = F0 m 0 ((lg_sl [.ref x, .int v] ++ List.replicate (2 - (lg_sl [.ref x, .int v]).length) Slot.unset).toArray) [] from (by rw [ha]; exact lg_entry_eq m [.ref x, .int v] 2)]
  generalize (lg_sl [.ref x, .int v] ++ List.replicate (2 - (lg_sl [.ref x, .int v]).length) Slot.unset).toArray = ls at hl ⊢
  have hl : lv_has ls 2 [(0, .ref x), (1, .int v)] := hl
  refine lv_aload_n hx hb d_Di_init_0 rfl (lv_at hl 0 rfl) ?_
  refine W.objInit hx hb hown (hts _ mw_241) (hts _ mw_1) (hts _ mw_2) rfl (by rw [hml]; exact hl.1) rfl d_Di_init_1 (Nat.le_of_ble_eq_true rfl) (Nat.le_of_ble_eq_true rfl) ?_
  refine W.eq (g2 := F0 m 4 ls []) rfl ?_
  refine lv_aload_n hx hb d_Di_init_4 rfl (lv_at hl 0 rfl) ?_
  refine hm_new (ci := 7) (fs := [.null, .null]) (C := R_Wr) (T := F_Wr) (N := 2) hx hb hts ig_Wr t_Wr tk_Wr hown (hts _ mw_242) (hts _ mw_243) (hts _ mw_221) hK hH rfl df_Wr (Nat.le_of_ble_eq_true rfl) (Nat.le_of_ble_eq_true rfl) d_Di_init_5 (fun q2 H1 hq3 hn4 hH z5 => ?_)
  have hz : s.heap.size ≤ H1.size := by rw [z5]; exact Nat.le_succ_of_le hz
  obtain ⟨h6, e7⟩ : ∃ z, z = hu h q2 (.inr (7, [.null, .null])) := ⟨_, rfl⟩
  have hH : hm D vwCl G h6 H1 := by rw [e7]; exact hH
  have nb_h_q2 : h q2 = none := kp_none hkp hn4 (nmc (Ne.symm (h_nf hn4 f_x)) nm0)
  have hkp : kp [x] h h6 := by rw [e7]; exact kp_new hkp hn4
  have ne_x_q2 : x ≠ q2 := h_nf hn4 f_x
  have f_x : h6 x = some (.inr (8, [.null, .null, .null, .null, .null, .int 0, .int 0, .null, .null])) := by rw [e7, hu_n ne_x_q2]; exact f_x
  have f_wr : h6 q2 = some (.inr (7, [.null, .null])) := by rw [e7]; exact hu_s _ _ _
  refine lv_dup hx hb d_Di_init_8 rfl ?_
  refine hm_callv (va_runIN (As := []) (b := q2) (rest := [.ref q2, .ref x]) ⟨hx, hb, hml, hown, hts⟩ (c_Writer_init l D t G ak av h6 q2 f_wr) ⟨cw9N 0 hts mw_244 (nmU hE nM_0) mw_221 rfl rfl (by decide +kernel) ⟨Nat.le_of_ble_eq_true rfl, Nat.le_of_ble_eq_true rfl⟩, rfl, hts _ mw_245⟩ (hP_S kE_ok hE hH) rfl rfl hl.1 rfl (lv_room (Nat.le_of_ble_eq_true rfl)) d_Di_init_9 ⟨Nat.le_of_ble_eq_true rfl, Nat.le_of_ble_eq_true rfl⟩) hLo (fun h8 H9 locs hp11 hH z10 hLo => ?_)
  have hz : s.heap.size ≤ H9.size := Nat.le_trans hz z10
  obtain ⟨hk9, su, pg, pb, hq9, hs9, hg9, hb9⟩ := hp11
  have f_x : h8 x = some (.inr (8, [.null, .null, .null, .null, .null, .int 0, .int 0, .null, .null])) := kp_at hk9 f_x (nmc ne_x_q2 nm0)
  have hkp : kp [x] h h8 := kp_tr2 hkp hk9 (List.forall_mem_cons.mpr ⟨Or.inr nb_h_q2, List.forall_mem_nil _⟩)
  have f_wr : h8 q2 = some (.inr (7, [.ref su, .ref pg])) := hq9
  have f_su : h8 su = some (.inr (4, [.int (-1), .int 0, .int 0])) := hs9
  have f_pg : h8 pg = some (.inr (3, [.ref pb])) := hg9
  have f_pb : h8 pb = some (.inl ((t 0), 2048, .inl (fun _ => 0))) := hb9
  refine hm_putF (ci := 8) (v := .ref q2) (ty := (.object "WriteOnceDisc$Writer")) (C := R_Di) (T := F_Di) (N := 9) hx hb hts ig_Di t_Di tk_Di nm_Di hown hK hH hLo f_x rfl 0 (by decide) (hts _ mw_246) (fun _ h9 => h9) rfl hin rfl (by decide +kernel) rfl rfl (Nat.le_of_ble_eq_true rfl) d_Di_init_12 (fun H12 locs hH z13 hLo => ?_)
  have hz : s.heap.size ≤ H12.size := by rw [z13]; exact hz
  obtain ⟨h14, e15⟩ : ∃ z, z = hu h8 x (.inr (8, [.ref q2, .null, .null, .null, .null, .int 0, .int 0, .null, .null])) := ⟨_, rfl⟩
  have hH : hm D vwCl G h14 H12 := by rw [e15]; exact hH
  have f_wr : h14 q2 = some (.inr (7, [.ref su, .ref pg])) := by rw [e15, hu_n (Ne.symm ne_x_q2)]; exact f_wr
  have f_su : h14 su = some (.inr (4, [.int (-1), .int 0, .int 0])) := by rw [e15, hu_n (h_neC f_su f_x (by decide))]; exact f_su
  have f_pg : h14 pg = some (.inr (3, [.ref pb])) := by rw [e15, hu_n (h_neC f_pg f_x (by decide))]; exact f_pg
  have f_pb : h14 pb = some (.inl ((t 0), 2048, .inl (fun _ => 0))) := by rw [e15, hu_n (h_neA f_pb f_x)]; exact f_pb
  have f_x : h14 x = some (.inr (8, [.ref q2, .null, .null, .null, .null, .int 0, .int 0, .null, .null])) := by rw [e15]; exact hu_s _ _ _
  have hkp : kp [x] h h14 := by rw [e15]; exact kp_put hkp (by simp)
  refine lv_aload_n hx hb d_Di_init_15 rfl (lv_at hl 0 rfl) ?_
  refine hm_new (ci := 5) (fs := [.null, .null, .null, .null, .int 0]) (C := R_Re) (T := F_Re) (N := 5) hx hb hts ig_Re t_Re tk_Re hown (hts _ mw_247) (hts _ mw_248) (hts _ mw_249) hK hH rfl df_Re (Nat.le_of_ble_eq_true rfl) (Nat.le_of_ble_eq_true rfl) d_Di_init_16 (fun q17 H16 hq18 hn19 hH z20 => ?_)
  have hz : s.heap.size ≤ H16.size := by rw [z20]; exact Nat.le_succ_of_le hz
  obtain ⟨h21, e22⟩ : ∃ z, z = hu h14 q17 (.inr (5, [.null, .null, .null, .null, .int 0])) := ⟨_, rfl⟩
  have hH : hm D vwCl G h21 H16 := by rw [e22]; exact hH
  have nb_h_q17 : h q17 = none := kp_none hkp hn19 (nmc (Ne.symm (h_nf hn19 f_x)) nm0)
  have hkp : kp [x] h h21 := by rw [e22]; exact kp_new hkp hn19
  have ne_x_q17 : x ≠ q17 := h_nf hn19 f_x
  have f_x : h21 x = some (.inr (8, [.ref q2, .null, .null, .null, .null, .int 0, .int 0, .null, .null])) := by rw [e22, hu_n ne_x_q17]; exact f_x
  have ne_q2_q17 : q2 ≠ q17 := h_nf hn19 f_wr
  have f_wr : h21 q2 = some (.inr (7, [.ref su, .ref pg])) := by rw [e22, hu_n ne_q2_q17]; exact f_wr
  have ne_su_q17 : su ≠ q17 := h_nf hn19 f_su
  have f_su : h21 su = some (.inr (4, [.int (-1), .int 0, .int 0])) := by rw [e22, hu_n ne_su_q17]; exact f_su
  have ne_pg_q17 : pg ≠ q17 := h_nf hn19 f_pg
  have f_pg : h21 pg = some (.inr (3, [.ref pb])) := by rw [e22, hu_n ne_pg_q17]; exact f_pg
  have ne_pb_q17 : pb ≠ q17 := h_nf hn19 f_pb
  have f_pb : h21 pb = some (.inl ((t 0), 2048, .inl (fun _ => 0))) := by rw [e22, hu_n ne_pb_q17]; exact f_pb
  have f_rd : h21 q17 = some (.inr (5, [.null, .null, .null, .null, .int 0])) := by rw [e22]; exact hu_s _ _ _
  refine lv_dup hx hb d_Di_init_19 rfl ?_
  refine hm_callv (va_runIN (As := []) (b := q17) (rest := [.ref q17, .ref x]) ⟨hx, hb, hml, hown, hts⟩ (c_Reader_init l D t G ak av h21 q17 f_rd) ⟨cw9N 0 hts mw_250 (nmU hE nM_2) mw_249 rfl rfl (by decide +kernel) ⟨Nat.le_of_ble_eq_true rfl, Nat.le_of_ble_eq_true rfl⟩, rfl, hts _ mw_251⟩ (hP_S kE_ok hE hH) rfl rfl hl.1 rfl (lv_room (Nat.le_of_ble_eq_true rfl)) d_Di_init_20 ⟨Nat.le_of_ble_eq_true rfl, Nat.le_of_ble_eq_true rfl⟩) hLo (fun h23 H24 locs hp26 hH z25 hLo => ?_)
  have hz : s.heap.size ≤ H24.size := Nat.le_trans hz z25
  obtain ⟨hk9, pg2, no2, pb2, hq9, -⟩ := hp26
  have f_x : h23 x = some (.inr (8, [.ref q2, .null, .null, .null, .null, .int 0, .int 0, .null, .null])) := kp_at hk9 f_x (nmc ne_x_q17 nm0)
  have f_wr : h23 q2 = some (.inr (7, [.ref su, .ref pg])) := kp_at hk9 f_wr (nmc ne_q2_q17 nm0)
  have f_su : h23 su = some (.inr (4, [.int (-1), .int 0, .int 0])) := kp_at hk9 f_su (nmc ne_su_q17 nm0)
  have f_pg : h23 pg = some (.inr (3, [.ref pb])) := kp_at hk9 f_pg (nmc ne_pg_q17 nm0)
  have f_pb : h23 pb = some (.inl ((t 0), 2048, .inl (fun _ => 0))) := kp_at hk9 f_pb (nmc ne_pb_q17 nm0)
  have hkp : kp [x] h h23 := kp_tr2 hkp hk9 (List.forall_mem_cons.mpr ⟨Or.inr nb_h_q17, List.forall_mem_nil _⟩)
  refine hm_putF (ci := 8) (v := .ref q17) (ty := (.object "WriteOnceDisc$Reader")) (C := R_Di) (T := F_Di) (N := 9) hx hb hts ig_Di t_Di tk_Di nm_Di hown hK hH hLo f_x rfl 1 (by decide) (hts _ mw_252) (fun _ h9 => h9) rfl hin rfl (by decide +kernel) rfl rfl (Nat.le_of_ble_eq_true rfl) d_Di_init_23 (fun H27 locs hH z28 hLo => ?_)
  have hz : s.heap.size ≤ H27.size := by rw [z28]; exact hz
  obtain ⟨h29, e30⟩ : ∃ z, z = hu h23 x (.inr (8, [.ref q2, .ref q17, .null, .null, .null, .int 0, .int 0, .null, .null])) := ⟨_, rfl⟩
  have hH : hm D vwCl G h29 H27 := by rw [e30]; exact hH
  have f_wr : h29 q2 = some (.inr (7, [.ref su, .ref pg])) := by rw [e30, hu_n (Ne.symm ne_x_q2)]; exact f_wr
  have f_su : h29 su = some (.inr (4, [.int (-1), .int 0, .int 0])) := by rw [e30, hu_n (h_neC f_su f_x (by decide))]; exact f_su
  have f_pg : h29 pg = some (.inr (3, [.ref pb])) := by rw [e30, hu_n (h_neC f_pg f_x (by decide))]; exact f_pg
  have f_pb : h29 pb = some (.inl ((t 0), 2048, .inl (fun _ => 0))) := by rw [e30, hu_n (h_neA f_pb f_x)]; exact f_pb
  have f_x : h29 x = some (.inr (8, [.ref q2, .ref q17, .null, .null, .null, .int 0, .int 0, .null, .null])) := by rw [e30]; exact hu_s _ _ _
  have hkp : kp [x] h h29 := by rw [e30]; exact kp_put hkp (by simp)
  refine lv_aload_n hx hb d_Di_init_26 rfl (lv_at hl 0 rfl) ?_
  refine hm_new (ci := 2) (fs := [.null, .null, .int 0, .int 0]) (C := R_Ns) (T := F_Ns) (N := 4) hx hb hts ig_Ns t_Ns tk_Ns hown (hts _ mw_253) (hts _ mw_254) (hts _ mw_187) hK hH rfl df_Ns (Nat.le_of_ble_eq_true rfl) (Nat.le_of_ble_eq_true rfl) d_Di_init_27 (fun q32 H31 hq33 hn34 hH z35 => ?_)
  have hz : s.heap.size ≤ H31.size := by rw [z35]; exact Nat.le_succ_of_le hz
  obtain ⟨h36, e37⟩ : ∃ z, z = hu h29 q32 (.inr (2, [.null, .null, .int 0, .int 0])) := ⟨_, rfl⟩
  have hH : hm D vwCl G h36 H31 := by rw [e37]; exact hH
  have nb_h_q32 : h q32 = none := kp_none hkp hn34 (nmc (Ne.symm (h_nf hn34 f_x)) nm0)
  have hkp : kp [x] h h36 := by rw [e37]; exact kp_new hkp hn34
  have ne_x_q32 : x ≠ q32 := h_nf hn34 f_x
  have f_x : h36 x = some (.inr (8, [.ref q2, .ref q17, .null, .null, .null, .int 0, .int 0, .null, .null])) := by rw [e37, hu_n ne_x_q32]; exact f_x
  have ne_q2_q32 : q2 ≠ q32 := h_nf hn34 f_wr
  have f_wr : h36 q2 = some (.inr (7, [.ref su, .ref pg])) := by rw [e37, hu_n ne_q2_q32]; exact f_wr
  have ne_su_q32 : su ≠ q32 := h_nf hn34 f_su
  have f_su : h36 su = some (.inr (4, [.int (-1), .int 0, .int 0])) := by rw [e37, hu_n ne_su_q32]; exact f_su
  have ne_pg_q32 : pg ≠ q32 := h_nf hn34 f_pg
  have f_pg : h36 pg = some (.inr (3, [.ref pb])) := by rw [e37, hu_n ne_pg_q32]; exact f_pg
  have ne_pb_q32 : pb ≠ q32 := h_nf hn34 f_pb
  have f_pb : h36 pb = some (.inl ((t 0), 2048, .inl (fun _ => 0))) := by rw [e37, hu_n ne_pb_q32]; exact f_pb
  have f_ns9 : h36 q32 = some (.inr (2, [.null, .null, .int 0, .int 0])) := by rw [e37]; exact hu_s _ _ _
  refine lv_dup hx hb d_Di_init_30 rfl ?_
  refine hm_callv (va_runI (As := []) (b := q32) (rest := [.ref q32, .ref x]) ⟨hx, hb, hml, hown, hts⟩ (c_Nodes_init l D t G ak av h36 q32 f_ns9) ⟨cw9B 0 hts mw_255 mw_256 mw_187 rfl rfl (by decide +kernel) ⟨Nat.le_of_ble_eq_true rfl, Nat.le_of_ble_eq_true rfl⟩, rfl, hts _ mw_257⟩ (hP_S kE_ok hE hH) rfl rfl hl.1 rfl (lv_room (Nat.le_of_ble_eq_true rfl)) d_Di_init_31 ⟨Nat.le_of_ble_eq_true rfl, Nat.le_of_ble_eq_true rfl⟩) hLo (fun h38 H39 locs hp41 hH z40 hLo => ?_)
  have hz : s.heap.size ≤ H39.size := Nat.le_trans hz z40
  obtain ⟨hk9, sl9, od9, fs9, g9, hq9, hs9, ho9, hn9, hi9, hd9⟩ := hp41
  have f_x : h38 x = some (.inr (8, [.ref q2, .ref q17, .null, .null, .null, .int 0, .int 0, .null, .null])) := kp_at hk9 f_x (nmc ne_x_q32 nm0)
  have f_wr : h38 q2 = some (.inr (7, [.ref su, .ref pg])) := kp_at hk9 f_wr (nmc ne_q2_q32 nm0)
  have f_su : h38 su = some (.inr (4, [.int (-1), .int 0, .int 0])) := kp_at hk9 f_su (nmc ne_su_q32 nm0)
  have f_pg : h38 pg = some (.inr (3, [.ref pb])) := kp_at hk9 f_pg (nmc ne_pg_q32 nm0)
  have f_pb : h38 pb = some (.inl ((t 0), 2048, .inl (fun _ => 0))) := kp_at hk9 f_pb (nmc ne_pb_q32 nm0)
  have hkp : kp [x] h h38 := kp_tr2 hkp hk9 (List.forall_mem_cons.mpr ⟨Or.inr nb_h_q32, List.forall_mem_nil _⟩)
  obtain ⟨sl, rfl⟩ : ∃ z, z = sl9 := ⟨_, rfl⟩
  obtain ⟨od, rfl⟩ : ∃ z, z = od9 := ⟨_, rfl⟩
  obtain ⟨fs, rfl⟩ : ∃ z, z = fs9 := ⟨_, rfl⟩
  obtain ⟨g, rfl⟩ : ∃ z, z = g9 := ⟨_, rfl⟩
  have f_ns : h38 q32 = some (.inr (2, [.ref sl, .ref od, .int 1, .int 1])) := hq9
  have f_sl : h38 sl = some (.inl ((t 4), 30, .inr (.inr (.inr (.inr fs))))) := hs9
  have f_od : h38 od = some (.inl ((t 4), 30, .inr (.inr (.inr (.inr g))))) := ho9
  have hgf : ∀ j, j < 30 → g j = fs j := fun j hj => by
    obtain ⟨a, h1, h2, -⟩ := hn9 j hj
    rw [h1, h2]
  have hnd : rowP (.inr (1, [.int 0, .null, .int 1, .long 0, .int 0, .int 0, .int 0, .int 0, .int 0, .int 0, .int 1])) fs 0 30 h38 := ⟨hi9, fun j _ hj => by
    obtain ⟨a, h1, -, h3⟩ := hn9 j hj
    exact ⟨a, h1, h3⟩⟩
  have ne_sl_od : sl ≠ od := hd9
  refine hm_putF (ci := 8) (v := .ref q32) (ty := (.object "WriteOnceDisc$Nodes")) (C := R_Di) (T := F_Di) (N := 9) hx hb hts ig_Di t_Di tk_Di nm_Di hown hK hH hLo f_x rfl 2 (by decide) (hts _ mw_258) (fun _ h9 => h9) rfl hin rfl (by decide +kernel) rfl rfl (Nat.le_of_ble_eq_true rfl) d_Di_init_34 (fun H42 locs hH z43 hLo => ?_)
  have hz : s.heap.size ≤ H42.size := by rw [z43]; exact hz
  obtain ⟨h44, e45⟩ : ∃ z, z = hu h38 x (.inr (8, [.ref q2, .ref q17, .ref q32, .null, .null, .int 0, .int 0, .null, .null])) := ⟨_, rfl⟩
  have hH : hm D vwCl G h44 H42 := by rw [e45]; exact hH
  have hnd : rowP (.inr (1, [.int 0, .null, .int 1, .long 0, .int 0, .int 0, .int 0, .int 0, .int 0, .int 0, .int 1])) fs 0 30 h44 := by rw [e45]; exact rowP_put hnd (by rw [f_x]; simp)
  have f_wr : h44 q2 = some (.inr (7, [.ref su, .ref pg])) := by rw [e45, hu_n (Ne.symm ne_x_q2)]; exact f_wr
  have f_su : h44 su = some (.inr (4, [.int (-1), .int 0, .int 0])) := by rw [e45, hu_n (h_neC f_su f_x (by decide))]; exact f_su
  have f_pg : h44 pg = some (.inr (3, [.ref pb])) := by rw [e45, hu_n (h_neC f_pg f_x (by decide))]; exact f_pg
  have f_pb : h44 pb = some (.inl ((t 0), 2048, .inl (fun _ => 0))) := by rw [e45, hu_n (h_neA f_pb f_x)]; exact f_pb
  have f_ns : h44 q32 = some (.inr (2, [.ref sl, .ref od, .int 1, .int 1])) := by rw [e45, hu_n (Ne.symm ne_x_q32)]; exact f_ns
  have f_sl : h44 sl = some (.inl ((t 4), 30, .inr (.inr (.inr (.inr fs))))) := by rw [e45, hu_n (h_neA f_sl f_x)]; exact f_sl
  have f_od : h44 od = some (.inl ((t 4), 30, .inr (.inr (.inr (.inr g))))) := by rw [e45, hu_n (h_neA f_od f_x)]; exact f_od
  have f_x : h44 x = some (.inr (8, [.ref q2, .ref q17, .ref q32, .null, .null, .int 0, .int 0, .null, .null])) := by rw [e45]; exact hu_s _ _ _
  have hkp : kp [x] h h44 := by rw [e45]; exact kp_put hkp (by simp)
  refine lv_aload_n hx hb d_Di_init_37 rfl (lv_at hl 0 rfl) ?_
  refine lv_null hx hb d_Di_init_38 ?_
  refine hm_put (ci := 8) (v := .null) (ty := (.object "WriteOnceDisc$Medium")) (C := R_Di) (T := F_Di) (N := 9) hx hb hts ig_Di t_Di tk_Di nm_Di hown hK hH hLo f_x rfl 4 (by decide) (hts _ mw_259) (fun _ h9 => h9) rfl (by decide +kernel) rfl rfl (Nat.le_of_ble_eq_true rfl) d_Di_init_39 (fun H46 locs hH z47 hLo => ?_)
  have hz : s.heap.size ≤ H46.size := by rw [z47]; exact hz
  obtain ⟨h48, e49⟩ : ∃ z, z = hu h44 x (.inr (8, [.ref q2, .ref q17, .ref q32, .null, .null, .int 0, .int 0, .null, .null])) := ⟨_, rfl⟩
  have hH : hm D vwCl G h48 H46 := by rw [e49]; exact hH
  have hnd : rowP (.inr (1, [.int 0, .null, .int 1, .long 0, .int 0, .int 0, .int 0, .int 0, .int 0, .int 0, .int 1])) fs 0 30 h48 := by rw [e49]; exact rowP_put hnd (by rw [f_x]; simp)
  have f_wr : h48 q2 = some (.inr (7, [.ref su, .ref pg])) := by rw [e49, hu_n (Ne.symm ne_x_q2)]; exact f_wr
  have f_su : h48 su = some (.inr (4, [.int (-1), .int 0, .int 0])) := by rw [e49, hu_n (h_neC f_su f_x (by decide))]; exact f_su
  have f_pg : h48 pg = some (.inr (3, [.ref pb])) := by rw [e49, hu_n (h_neC f_pg f_x (by decide))]; exact f_pg
  have f_pb : h48 pb = some (.inl ((t 0), 2048, .inl (fun _ => 0))) := by rw [e49, hu_n (h_neA f_pb f_x)]; exact f_pb
  have f_ns : h48 q32 = some (.inr (2, [.ref sl, .ref od, .int 1, .int 1])) := by rw [e49, hu_n (Ne.symm ne_x_q32)]; exact f_ns
  have f_sl : h48 sl = some (.inl ((t 4), 30, .inr (.inr (.inr (.inr fs))))) := by rw [e49, hu_n (h_neA f_sl f_x)]; exact f_sl
  have f_od : h48 od = some (.inl ((t 4), 30, .inr (.inr (.inr (.inr g))))) := by rw [e49, hu_n (h_neA f_od f_x)]; exact f_od
  have f_x : h48 x = some (.inr (8, [.ref q2, .ref q17, .ref q32, .null, .null, .int 0, .int 0, .null, .null])) := by rw [e49]; exact hu_s _ _ _
  have hkp : kp [x] h h48 := by rw [e49]; exact kp_put hkp (by simp)
  refine lv_aload_n hx hb d_Di_init_42 rfl (lv_at hl 0 rfl) ?_
  refine lv_iconst (v := 0) hx hb d_Di_init_43 (by decide) ?_
  refine hm_put (ci := 8) (v := .int 0) (ty := .int) (C := R_Di) (T := F_Di) (N := 9) hx hb hts ig_Di t_Di tk_Di nm_Di hown hK hH hLo f_x rfl 5 (by decide) (hts _ mw_260) (fun _ h9 => h9) rfl (by decide +kernel) rfl rfl (Nat.le_of_ble_eq_true rfl) d_Di_init_44 (fun H50 locs hH z51 hLo => ?_)
  have hz : s.heap.size ≤ H50.size := by rw [z51]; exact hz
  obtain ⟨h52, e53⟩ : ∃ z, z = hu h48 x (.inr (8, [.ref q2, .ref q17, .ref q32, .null, .null, .int 0, .int 0, .null, .null])) := ⟨_, rfl⟩
  have hH : hm D vwCl G h52 H50 := by rw [e53]; exact hH
  have hnd : rowP (.inr (1, [.int 0, .null, .int 1, .long 0, .int 0, .int 0, .int 0, .int 0, .int 0, .int 0, .int 1])) fs 0 30 h52 := by rw [e53]; exact rowP_put hnd (by rw [f_x]; simp)
  have f_wr : h52 q2 = some (.inr (7, [.ref su, .ref pg])) := by rw [e53, hu_n (Ne.symm ne_x_q2)]; exact f_wr
  have f_su : h52 su = some (.inr (4, [.int (-1), .int 0, .int 0])) := by rw [e53, hu_n (h_neC f_su f_x (by decide))]; exact f_su
  have f_pg : h52 pg = some (.inr (3, [.ref pb])) := by rw [e53, hu_n (h_neC f_pg f_x (by decide))]; exact f_pg
  have f_pb : h52 pb = some (.inl ((t 0), 2048, .inl (fun _ => 0))) := by rw [e53, hu_n (h_neA f_pb f_x)]; exact f_pb
  have f_ns : h52 q32 = some (.inr (2, [.ref sl, .ref od, .int 1, .int 1])) := by rw [e53, hu_n (Ne.symm ne_x_q32)]; exact f_ns
  have f_sl : h52 sl = some (.inl ((t 4), 30, .inr (.inr (.inr (.inr fs))))) := by rw [e53, hu_n (h_neA f_sl f_x)]; exact f_sl
  have f_od : h52 od = some (.inl ((t 4), 30, .inr (.inr (.inr (.inr g))))) := by rw [e53, hu_n (h_neA f_od f_x)]; exact f_od
  have f_x : h52 x = some (.inr (8, [.ref q2, .ref q17, .ref q32, .null, .null, .int 0, .int 0, .null, .null])) := by rw [e53]; exact hu_s _ _ _
  have hkp : kp [x] h h52 := by rw [e53]; exact kp_put hkp (by simp)
  refine lv_aload_n hx hb d_Di_init_47 rfl (lv_at hl 0 rfl) ?_
  refine lv_iconst (v := 0) hx hb d_Di_init_48 (by decide) ?_
  refine hm_put (ci := 8) (v := .int 0) (ty := .boolean) (C := R_Di) (T := F_Di) (N := 9) hx hb hts ig_Di t_Di tk_Di nm_Di hown hK hH hLo f_x rfl 6 (by decide) (hts _ mw_261) (fun _ h9 => h9) rfl (by decide +kernel) (by decide) (by decide) (Nat.le_of_ble_eq_true rfl) d_Di_init_49 (fun H54 locs hH z55 hLo => ?_)
  have hz : s.heap.size ≤ H54.size := by rw [z55]; exact hz
  obtain ⟨h56, e57⟩ : ∃ z, z = hu h52 x (.inr (8, [.ref q2, .ref q17, .ref q32, .null, .null, .int 0, .int 0, .null, .null])) := ⟨_, rfl⟩
  have hH : hm D vwCl G h56 H54 := by rw [e57]; exact hH
  have hnd : rowP (.inr (1, [.int 0, .null, .int 1, .long 0, .int 0, .int 0, .int 0, .int 0, .int 0, .int 0, .int 1])) fs 0 30 h56 := by rw [e57]; exact rowP_put hnd (by rw [f_x]; simp)
  have f_wr : h56 q2 = some (.inr (7, [.ref su, .ref pg])) := by rw [e57, hu_n (Ne.symm ne_x_q2)]; exact f_wr
  have f_su : h56 su = some (.inr (4, [.int (-1), .int 0, .int 0])) := by rw [e57, hu_n (h_neC f_su f_x (by decide))]; exact f_su
  have f_pg : h56 pg = some (.inr (3, [.ref pb])) := by rw [e57, hu_n (h_neC f_pg f_x (by decide))]; exact f_pg
  have f_pb : h56 pb = some (.inl ((t 0), 2048, .inl (fun _ => 0))) := by rw [e57, hu_n (h_neA f_pb f_x)]; exact f_pb
  have f_ns : h56 q32 = some (.inr (2, [.ref sl, .ref od, .int 1, .int 1])) := by rw [e57, hu_n (Ne.symm ne_x_q32)]; exact f_ns
  have f_sl : h56 sl = some (.inl ((t 4), 30, .inr (.inr (.inr (.inr fs))))) := by rw [e57, hu_n (h_neA f_sl f_x)]; exact f_sl
  have f_od : h56 od = some (.inl ((t 4), 30, .inr (.inr (.inr (.inr g))))) := by rw [e57, hu_n (h_neA f_od f_x)]; exact f_od
  have f_x : h56 x = some (.inr (8, [.ref q2, .ref q17, .ref q32, .null, .null, .int 0, .int 0, .null, .null])) := by rw [e57]; exact hu_s _ _ _
  have hkp : kp [x] h h56 := by rw [e57]; exact kp_put hkp (by simp)
  refine lv_aload_n hx hb d_Di_init_52 rfl (lv_at hl 0 rfl) ?_
  refine hm_new (ci := 2) (fs := [.null, .null, .int 0, .int 0]) (C := R_Ns) (T := F_Ns) (N := 4) hx hb hts ig_Ns t_Ns tk_Ns hown (hts _ mw_253) (hts _ mw_254) (hts _ mw_187) hK hH rfl df_Ns (Nat.le_of_ble_eq_true rfl) (Nat.le_of_ble_eq_true rfl) d_Di_init_53 (fun q59 H58 hq60 hn61 hH z62 => ?_)
  have hz : s.heap.size ≤ H58.size := by rw [z62]; exact Nat.le_succ_of_le hz
  obtain ⟨h63, e64⟩ : ∃ z, z = hu h56 q59 (.inr (2, [.null, .null, .int 0, .int 0])) := ⟨_, rfl⟩
  have hH : hm D vwCl G h63 H58 := by rw [e64]; exact hH
  have hnd : rowP (.inr (1, [.int 0, .null, .int 1, .long 0, .int 0, .int 0, .int 0, .int 0, .int 0, .int 0, .int 1])) fs 0 30 h63 := by rw [e64]; exact rowP_put hnd (by rw [hn61]; simp)
  have nb_h_q59 : h q59 = none := kp_none hkp hn61 (nmc (Ne.symm (h_nf hn61 f_x)) nm0)
  have hkp : kp [x] h h63 := by rw [e64]; exact kp_new hkp hn61
  have ne_x_q59 : x ≠ q59 := h_nf hn61 f_x
  have f_x : h63 x = some (.inr (8, [.ref q2, .ref q17, .ref q32, .null, .null, .int 0, .int 0, .null, .null])) := by rw [e64, hu_n ne_x_q59]; exact f_x
  have ne_q2_q59 : q2 ≠ q59 := h_nf hn61 f_wr
  have f_wr : h63 q2 = some (.inr (7, [.ref su, .ref pg])) := by rw [e64, hu_n ne_q2_q59]; exact f_wr
  have ne_su_q59 : su ≠ q59 := h_nf hn61 f_su
  have f_su : h63 su = some (.inr (4, [.int (-1), .int 0, .int 0])) := by rw [e64, hu_n ne_su_q59]; exact f_su
  have ne_pg_q59 : pg ≠ q59 := h_nf hn61 f_pg
  have f_pg : h63 pg = some (.inr (3, [.ref pb])) := by rw [e64, hu_n ne_pg_q59]; exact f_pg
  have ne_pb_q59 : pb ≠ q59 := h_nf hn61 f_pb
  have f_pb : h63 pb = some (.inl ((t 0), 2048, .inl (fun _ => 0))) := by rw [e64, hu_n ne_pb_q59]; exact f_pb
  have ne_q32_q59 : q32 ≠ q59 := h_nf hn61 f_ns
  have f_ns : h63 q32 = some (.inr (2, [.ref sl, .ref od, .int 1, .int 1])) := by rw [e64, hu_n ne_q32_q59]; exact f_ns
  have ne_sl_q59 : sl ≠ q59 := h_nf hn61 f_sl
  have f_sl : h63 sl = some (.inl ((t 4), 30, .inr (.inr (.inr (.inr fs))))) := by rw [e64, hu_n ne_sl_q59]; exact f_sl
  have ne_od_q59 : od ≠ q59 := h_nf hn61 f_od
  have f_od : h63 od = some (.inl ((t 4), 30, .inr (.inr (.inr (.inr g))))) := by rw [e64, hu_n ne_od_q59]; exact f_od
  have f_ns9 : h63 q59 = some (.inr (2, [.null, .null, .int 0, .int 0])) := by rw [e64]; exact hu_s _ _ _
  refine lv_dup hx hb d_Di_init_56 rfl ?_
  refine hm_callv (va_runI (As := []) (b := q59) (rest := [.ref q59, .ref x]) ⟨hx, hb, hml, hown, hts⟩ (c_Nodes_init l D t G ak av h63 q59 f_ns9) ⟨cw9B 0 hts mw_255 mw_256 mw_187 rfl rfl (by decide +kernel) ⟨Nat.le_of_ble_eq_true rfl, Nat.le_of_ble_eq_true rfl⟩, rfl, hts _ mw_257⟩ (hP_S kE_ok hE hH) rfl rfl hl.1 rfl (lv_room (Nat.le_of_ble_eq_true rfl)) d_Di_init_57 ⟨Nat.le_of_ble_eq_true rfl, Nat.le_of_ble_eq_true rfl⟩) hLo (fun h65 H66 locs hp68 hH z67 hLo => ?_)
  have hz : s.heap.size ≤ H66.size := Nat.le_trans hz z67
  obtain ⟨hk9, sl9, od9, fs9, g9, hq9, hs9, ho9, hn9, hi9, hd9⟩ := hp68
  have hnd : rowP (.inr (1, [.int 0, .null, .int 1, .long 0, .int 0, .int 0, .int 0, .int 0, .int 0, .int 0, .int 1])) fs 0 30 h65 := rowP_kp hnd hk9 (List.forall_mem_cons.mpr ⟨by rw [f_ns9]; simp, List.forall_mem_nil _⟩)
  have f_x : h65 x = some (.inr (8, [.ref q2, .ref q17, .ref q32, .null, .null, .int 0, .int 0, .null, .null])) := kp_at hk9 f_x (nmc ne_x_q59 nm0)
  have f_wr : h65 q2 = some (.inr (7, [.ref su, .ref pg])) := kp_at hk9 f_wr (nmc ne_q2_q59 nm0)
  have f_su : h65 su = some (.inr (4, [.int (-1), .int 0, .int 0])) := kp_at hk9 f_su (nmc ne_su_q59 nm0)
  have f_pg : h65 pg = some (.inr (3, [.ref pb])) := kp_at hk9 f_pg (nmc ne_pg_q59 nm0)
  have f_pb : h65 pb = some (.inl ((t 0), 2048, .inl (fun _ => 0))) := kp_at hk9 f_pb (nmc ne_pb_q59 nm0)
  have f_ns : h65 q32 = some (.inr (2, [.ref sl, .ref od, .int 1, .int 1])) := kp_at hk9 f_ns (nmc ne_q32_q59 nm0)
  have f_sl : h65 sl = some (.inl ((t 4), 30, .inr (.inr (.inr (.inr fs))))) := kp_at hk9 f_sl (nmc ne_sl_q59 nm0)
  have f_od : h65 od = some (.inl ((t 4), 30, .inr (.inr (.inr (.inr g))))) := kp_at hk9 f_od (nmc ne_od_q59 nm0)
  have hkp : kp [x] h h65 := kp_tr2 hkp hk9 (List.forall_mem_cons.mpr ⟨Or.inr nb_h_q59, List.forall_mem_nil _⟩)
  refine hm_put (ci := 8) (v := .ref q59) (ty := (.object "WriteOnceDisc$Nodes")) (C := R_Di) (T := F_Di) (N := 9) hx hb hts ig_Di t_Di tk_Di nm_Di hown hK hH hLo f_x rfl 7 (by decide) (hts _ mw_262) (fun _ h9 => h9) rfl (by decide +kernel) rfl rfl (Nat.le_of_ble_eq_true rfl) d_Di_init_60 (fun H69 locs hH z70 hLo => ?_)
  have hz : s.heap.size ≤ H69.size := by rw [z70]; exact hz
  obtain ⟨h71, e72⟩ : ∃ z, z = hu h65 x (.inr (8, [.ref q2, .ref q17, .ref q32, .null, .null, .int 0, .int 0, .ref q59, .null])) := ⟨_, rfl⟩
  have hH : hm D vwCl G h71 H69 := by rw [e72]; exact hH
  have hnd : rowP (.inr (1, [.int 0, .null, .int 1, .long 0, .int 0, .int 0, .int 0, .int 0, .int 0, .int 0, .int 1])) fs 0 30 h71 := by rw [e72]; exact rowP_put hnd (by rw [f_x]; simp)
  have f_wr : h71 q2 = some (.inr (7, [.ref su, .ref pg])) := by rw [e72, hu_n (Ne.symm ne_x_q2)]; exact f_wr
  have f_su : h71 su = some (.inr (4, [.int (-1), .int 0, .int 0])) := by rw [e72, hu_n (h_neC f_su f_x (by decide))]; exact f_su
  have f_pg : h71 pg = some (.inr (3, [.ref pb])) := by rw [e72, hu_n (h_neC f_pg f_x (by decide))]; exact f_pg
  have f_pb : h71 pb = some (.inl ((t 0), 2048, .inl (fun _ => 0))) := by rw [e72, hu_n (h_neA f_pb f_x)]; exact f_pb
  have f_ns : h71 q32 = some (.inr (2, [.ref sl, .ref od, .int 1, .int 1])) := by rw [e72, hu_n (Ne.symm ne_x_q32)]; exact f_ns
  have f_sl : h71 sl = some (.inl ((t 4), 30, .inr (.inr (.inr (.inr fs))))) := by rw [e72, hu_n (h_neA f_sl f_x)]; exact f_sl
  have f_od : h71 od = some (.inl ((t 4), 30, .inr (.inr (.inr (.inr g))))) := by rw [e72, hu_n (h_neA f_od f_x)]; exact f_od
  have f_x : h71 x = some (.inr (8, [.ref q2, .ref q17, .ref q32, .null, .null, .int 0, .int 0, .ref q59, .null])) := by rw [e72]; exact hu_s _ _ _
  have hkp : kp [x] h h71 := by rw [e72]; exact kp_put hkp (by simp)
  refine lv_aload_n hx hb d_Di_init_63 rfl (lv_at hl 0 rfl) ?_
  refine hm_new (ci := 2) (fs := [.null, .null, .int 0, .int 0]) (C := R_Ns) (T := F_Ns) (N := 4) hx hb hts ig_Ns t_Ns tk_Ns hown (hts _ mw_253) (hts _ mw_254) (hts _ mw_187) hK hH rfl df_Ns (Nat.le_of_ble_eq_true rfl) (Nat.le_of_ble_eq_true rfl) d_Di_init_64 (fun q74 H73 hq75 hn76 hH z77 => ?_)
  have hz : s.heap.size ≤ H73.size := by rw [z77]; exact Nat.le_succ_of_le hz
  obtain ⟨h78, e79⟩ : ∃ z, z = hu h71 q74 (.inr (2, [.null, .null, .int 0, .int 0])) := ⟨_, rfl⟩
  have hH : hm D vwCl G h78 H73 := by rw [e79]; exact hH
  have hnd : rowP (.inr (1, [.int 0, .null, .int 1, .long 0, .int 0, .int 0, .int 0, .int 0, .int 0, .int 0, .int 1])) fs 0 30 h78 := by rw [e79]; exact rowP_put hnd (by rw [hn76]; simp)
  have nb_h_q74 : h q74 = none := kp_none hkp hn76 (nmc (Ne.symm (h_nf hn76 f_x)) nm0)
  have hkp : kp [x] h h78 := by rw [e79]; exact kp_new hkp hn76
  have ne_x_q74 : x ≠ q74 := h_nf hn76 f_x
  have f_x : h78 x = some (.inr (8, [.ref q2, .ref q17, .ref q32, .null, .null, .int 0, .int 0, .ref q59, .null])) := by rw [e79, hu_n ne_x_q74]; exact f_x
  have ne_q2_q74 : q2 ≠ q74 := h_nf hn76 f_wr
  have f_wr : h78 q2 = some (.inr (7, [.ref su, .ref pg])) := by rw [e79, hu_n ne_q2_q74]; exact f_wr
  have ne_su_q74 : su ≠ q74 := h_nf hn76 f_su
  have f_su : h78 su = some (.inr (4, [.int (-1), .int 0, .int 0])) := by rw [e79, hu_n ne_su_q74]; exact f_su
  have ne_pg_q74 : pg ≠ q74 := h_nf hn76 f_pg
  have f_pg : h78 pg = some (.inr (3, [.ref pb])) := by rw [e79, hu_n ne_pg_q74]; exact f_pg
  have ne_pb_q74 : pb ≠ q74 := h_nf hn76 f_pb
  have f_pb : h78 pb = some (.inl ((t 0), 2048, .inl (fun _ => 0))) := by rw [e79, hu_n ne_pb_q74]; exact f_pb
  have ne_q32_q74 : q32 ≠ q74 := h_nf hn76 f_ns
  have f_ns : h78 q32 = some (.inr (2, [.ref sl, .ref od, .int 1, .int 1])) := by rw [e79, hu_n ne_q32_q74]; exact f_ns
  have ne_sl_q74 : sl ≠ q74 := h_nf hn76 f_sl
  have f_sl : h78 sl = some (.inl ((t 4), 30, .inr (.inr (.inr (.inr fs))))) := by rw [e79, hu_n ne_sl_q74]; exact f_sl
  have ne_od_q74 : od ≠ q74 := h_nf hn76 f_od
  have f_od : h78 od = some (.inl ((t 4), 30, .inr (.inr (.inr (.inr g))))) := by rw [e79, hu_n ne_od_q74]; exact f_od
  have f_ns9 : h78 q74 = some (.inr (2, [.null, .null, .int 0, .int 0])) := by rw [e79]; exact hu_s _ _ _
  refine lv_dup hx hb d_Di_init_67 rfl ?_
  refine hm_callv (va_runI (As := []) (b := q74) (rest := [.ref q74, .ref x]) ⟨hx, hb, hml, hown, hts⟩ (c_Nodes_init l D t G ak av h78 q74 f_ns9) ⟨cw9B 0 hts mw_255 mw_256 mw_187 rfl rfl (by decide +kernel) ⟨Nat.le_of_ble_eq_true rfl, Nat.le_of_ble_eq_true rfl⟩, rfl, hts _ mw_257⟩ (hP_S kE_ok hE hH) rfl rfl hl.1 rfl (lv_room (Nat.le_of_ble_eq_true rfl)) d_Di_init_68 ⟨Nat.le_of_ble_eq_true rfl, Nat.le_of_ble_eq_true rfl⟩) hLo (fun h80 H81 locs hp83 hH z82 hLo => ?_)
  have hz : s.heap.size ≤ H81.size := Nat.le_trans hz z82
  obtain ⟨hk9, sl9, od9, fs9, g9, hq9, hs9, ho9, hn9, hi9, hd9⟩ := hp83
  have hnd : rowP (.inr (1, [.int 0, .null, .int 1, .long 0, .int 0, .int 0, .int 0, .int 0, .int 0, .int 0, .int 1])) fs 0 30 h80 := rowP_kp hnd hk9 (List.forall_mem_cons.mpr ⟨by rw [f_ns9]; simp, List.forall_mem_nil _⟩)
  have f_x : h80 x = some (.inr (8, [.ref q2, .ref q17, .ref q32, .null, .null, .int 0, .int 0, .ref q59, .null])) := kp_at hk9 f_x (nmc ne_x_q74 nm0)
  have f_wr : h80 q2 = some (.inr (7, [.ref su, .ref pg])) := kp_at hk9 f_wr (nmc ne_q2_q74 nm0)
  have f_su : h80 su = some (.inr (4, [.int (-1), .int 0, .int 0])) := kp_at hk9 f_su (nmc ne_su_q74 nm0)
  have f_pg : h80 pg = some (.inr (3, [.ref pb])) := kp_at hk9 f_pg (nmc ne_pg_q74 nm0)
  have f_pb : h80 pb = some (.inl ((t 0), 2048, .inl (fun _ => 0))) := kp_at hk9 f_pb (nmc ne_pb_q74 nm0)
  have f_ns : h80 q32 = some (.inr (2, [.ref sl, .ref od, .int 1, .int 1])) := kp_at hk9 f_ns (nmc ne_q32_q74 nm0)
  have f_sl : h80 sl = some (.inl ((t 4), 30, .inr (.inr (.inr (.inr fs))))) := kp_at hk9 f_sl (nmc ne_sl_q74 nm0)
  have f_od : h80 od = some (.inl ((t 4), 30, .inr (.inr (.inr (.inr g))))) := kp_at hk9 f_od (nmc ne_od_q74 nm0)
  have hkp : kp [x] h h80 := kp_tr2 hkp hk9 (List.forall_mem_cons.mpr ⟨Or.inr nb_h_q74, List.forall_mem_nil _⟩)
  refine hm_put (ci := 8) (v := .ref q74) (ty := (.object "WriteOnceDisc$Nodes")) (C := R_Di) (T := F_Di) (N := 9) hx hb hts ig_Di t_Di tk_Di nm_Di hown hK hH hLo f_x rfl 8 (by decide) (hts _ mw_263) (fun _ h9 => h9) rfl (by decide +kernel) rfl rfl (Nat.le_of_ble_eq_true rfl) d_Di_init_71 (fun H84 locs hH z85 hLo => ?_)
  have hz : s.heap.size ≤ H84.size := by rw [z85]; exact hz
  obtain ⟨h86, e87⟩ : ∃ z, z = hu h80 x (.inr (8, [.ref q2, .ref q17, .ref q32, .null, .null, .int 0, .int 0, .ref q59, .ref q74])) := ⟨_, rfl⟩
  have hH : hm D vwCl G h86 H84 := by rw [e87]; exact hH
  have hnd : rowP (.inr (1, [.int 0, .null, .int 1, .long 0, .int 0, .int 0, .int 0, .int 0, .int 0, .int 0, .int 1])) fs 0 30 h86 := by rw [e87]; exact rowP_put hnd (by rw [f_x]; simp)
  have f_wr : h86 q2 = some (.inr (7, [.ref su, .ref pg])) := by rw [e87, hu_n (Ne.symm ne_x_q2)]; exact f_wr
  have f_su : h86 su = some (.inr (4, [.int (-1), .int 0, .int 0])) := by rw [e87, hu_n (h_neC f_su f_x (by decide))]; exact f_su
  have f_pg : h86 pg = some (.inr (3, [.ref pb])) := by rw [e87, hu_n (h_neC f_pg f_x (by decide))]; exact f_pg
  have f_pb : h86 pb = some (.inl ((t 0), 2048, .inl (fun _ => 0))) := by rw [e87, hu_n (h_neA f_pb f_x)]; exact f_pb
  have f_ns : h86 q32 = some (.inr (2, [.ref sl, .ref od, .int 1, .int 1])) := by rw [e87, hu_n (Ne.symm ne_x_q32)]; exact f_ns
  have f_sl : h86 sl = some (.inl ((t 4), 30, .inr (.inr (.inr (.inr fs))))) := by rw [e87, hu_n (h_neA f_sl f_x)]; exact f_sl
  have f_od : h86 od = some (.inl ((t 4), 30, .inr (.inr (.inr (.inr g))))) := by rw [e87, hu_n (h_neA f_od f_x)]; exact f_od
  have f_x : h86 x = some (.inr (8, [.ref q2, .ref q17, .ref q32, .null, .null, .int 0, .int 0, .ref q59, .ref q74])) := by rw [e87]; exact hu_s _ _ _
  have hkp : kp [x] h h86 := by rw [e87]; exact kp_put hkp (by simp)
  refine lv_aload_n hx hb d_Di_init_74 rfl (lv_at hl 0 rfl) ?_
  refine hm_new (ci := 0) (fs := [.null, .int 0]) (C := R_Me) (T := F_Me) (N := 2) hx hb hts ig_Me t_Me tk_Me hown (hts _ mw_264) (hts _ mw_265) (hts _ mw_163) hK hH rfl df_Me (Nat.le_of_ble_eq_true rfl) (Nat.le_of_ble_eq_true rfl) d_Di_init_75 (fun q89 H88 hq90 hn91 hH z92 => ?_)
  have hz : s.heap.size ≤ H88.size := by rw [z92]; exact Nat.le_succ_of_le hz
  obtain ⟨h93, e94⟩ : ∃ z, z = hu h86 q89 (.inr (0, [.null, .int 0])) := ⟨_, rfl⟩
  have hH : hm D vwCl G h93 H88 := by rw [e94]; exact hH
  have hnd : rowP (.inr (1, [.int 0, .null, .int 1, .long 0, .int 0, .int 0, .int 0, .int 0, .int 0, .int 0, .int 1])) fs 0 30 h93 := by rw [e94]; exact rowP_put hnd (by rw [hn91]; simp)
  have nb_h_q89 : h q89 = none := kp_none hkp hn91 (nmc (Ne.symm (h_nf hn91 f_x)) nm0)
  have hkp : kp [x] h h93 := by rw [e94]; exact kp_new hkp hn91
  have ne_x_q89 : x ≠ q89 := h_nf hn91 f_x
  have f_x : h93 x = some (.inr (8, [.ref q2, .ref q17, .ref q32, .null, .null, .int 0, .int 0, .ref q59, .ref q74])) := by rw [e94, hu_n ne_x_q89]; exact f_x
  have ne_q2_q89 : q2 ≠ q89 := h_nf hn91 f_wr
  have f_wr : h93 q2 = some (.inr (7, [.ref su, .ref pg])) := by rw [e94, hu_n ne_q2_q89]; exact f_wr
  have ne_su_q89 : su ≠ q89 := h_nf hn91 f_su
  have f_su : h93 su = some (.inr (4, [.int (-1), .int 0, .int 0])) := by rw [e94, hu_n ne_su_q89]; exact f_su
  have ne_pg_q89 : pg ≠ q89 := h_nf hn91 f_pg
  have f_pg : h93 pg = some (.inr (3, [.ref pb])) := by rw [e94, hu_n ne_pg_q89]; exact f_pg
  have ne_pb_q89 : pb ≠ q89 := h_nf hn91 f_pb
  have f_pb : h93 pb = some (.inl ((t 0), 2048, .inl (fun _ => 0))) := by rw [e94, hu_n ne_pb_q89]; exact f_pb
  have ne_q32_q89 : q32 ≠ q89 := h_nf hn91 f_ns
  have f_ns : h93 q32 = some (.inr (2, [.ref sl, .ref od, .int 1, .int 1])) := by rw [e94, hu_n ne_q32_q89]; exact f_ns
  have ne_sl_q89 : sl ≠ q89 := h_nf hn91 f_sl
  have f_sl : h93 sl = some (.inl ((t 4), 30, .inr (.inr (.inr (.inr fs))))) := by rw [e94, hu_n ne_sl_q89]; exact f_sl
  have ne_od_q89 : od ≠ q89 := h_nf hn91 f_od
  have f_od : h93 od = some (.inl ((t 4), 30, .inr (.inr (.inr (.inr g))))) := by rw [e94, hu_n ne_od_q89]; exact f_od
  have f_md : h93 q89 = some (.inr (0, [.null, .int 0])) := by rw [e94]; exact hu_s _ _ _
  refine lv_dup hx hb d_Di_init_78 rfl ?_
  refine lv_iload_n hx hb d_Di_init_79 rfl (lv_at hl 1 rfl) ?_
  refine lv_bipush (v := 40) hx hb d_Di_init_80 (by decide) ?_
  refine lv_icmp_lt (tgt := 96) hx hb d_Di_init_82 (by decide) (fun hc95 => ?_) (fun hc95 => ?_)
  · skip
    have hz9 := nsz_lo hc95
    refine lv_bipush (v := 100) hx hb d_Di_init_96 (by decide) ?_
    refine lv_topi (fun v96 e97 => ?_)
    obtain rfl : v96 = nI 100 := e97.trans (by decide)
    refine hm_callv (va_runI (As := [.int (nI 100)]) (b := q89) (rest := [.ref q89, .ref x]) ⟨hx, hb, hml, hown, hts⟩ (c_Medium_init l D t G ak av h93 q89 100 f_md (by omega)) ⟨cw9B 1 hts mw_266 mw_267 mw_163 rfl rfl (by decide +kernel) ⟨Nat.le_of_ble_eq_true rfl, Nat.le_of_ble_eq_true rfl⟩, rfl, hts _ mw_268⟩ (hP_S kE_ok hE hH) rfl rfl hl.1 rfl (lv_room (Nat.le_of_ble_eq_true rfl)) d_Di_init_98 ⟨Nat.le_of_ble_eq_true rfl, Nat.le_of_ble_eq_true rfl⟩) hLo (fun h98 H99 locs hp101 hH z100 hLo => ?_)
    have hz : s.heap.size ≤ H99.size := Nat.le_trans hz z100
    obtain ⟨hk9, sa, fa, hq9, ha9, hrow⟩ := hp101
    have hnd : rowP (.inr (1, [.int 0, .null, .int 1, .long 0, .int 0, .int 0, .int 0, .int 0, .int 0, .int 0, .int 1])) fs 0 30 h98 := rowP_kp hnd hk9 (List.forall_mem_cons.mpr ⟨by rw [f_md]; simp, List.forall_mem_nil _⟩)
    have f_x : h98 x = some (.inr (8, [.ref q2, .ref q17, .ref q32, .null, .null, .int 0, .int 0, .ref q59, .ref q74])) := kp_at hk9 f_x (nmc ne_x_q89 nm0)
    have f_wr : h98 q2 = some (.inr (7, [.ref su, .ref pg])) := kp_at hk9 f_wr (nmc ne_q2_q89 nm0)
    have f_su : h98 su = some (.inr (4, [.int (-1), .int 0, .int 0])) := kp_at hk9 f_su (nmc ne_su_q89 nm0)
    have f_pg : h98 pg = some (.inr (3, [.ref pb])) := kp_at hk9 f_pg (nmc ne_pg_q89 nm0)
    have f_pb : h98 pb = some (.inl ((t 0), 2048, .inl (fun _ => 0))) := kp_at hk9 f_pb (nmc ne_pb_q89 nm0)
    have f_ns : h98 q32 = some (.inr (2, [.ref sl, .ref od, .int 1, .int 1])) := kp_at hk9 f_ns (nmc ne_q32_q89 nm0)
    have f_sl : h98 sl = some (.inl ((t 4), 30, .inr (.inr (.inr (.inr fs))))) := kp_at hk9 f_sl (nmc ne_sl_q89 nm0)
    have f_od : h98 od = some (.inl ((t 4), 30, .inr (.inr (.inr (.inr g))))) := kp_at hk9 f_od (nmc ne_od_q89 nm0)
    have hkp : kp [x] h h98 := kp_tr2 hkp hk9 (List.forall_mem_cons.mpr ⟨Or.inr nb_h_q89, List.forall_mem_nil _⟩)
    have f_md : h98 q89 = some (.inr (0, [.ref sa, .int 0])) := hq9
    have f_sa : h98 sa = some (.inl ((t 5), 100, .inr (.inr (.inr (.inr fa))))) := ha9
    refine hm_put (ci := 8) (v := .ref q89) (ty := (.object "WriteOnceDisc$Medium")) (C := R_Di) (T := F_Di) (N := 9) hx hb hts ig_Di t_Di tk_Di nm_Di hown hK hH hLo f_x rfl 3 (by decide) (hts _ mw_269) (fun _ h9 => h9) rfl (by decide +kernel) rfl rfl (Nat.le_of_ble_eq_true rfl) d_Di_init_101 (fun H102 locs hH z103 hLo => ?_)
    have hz : s.heap.size ≤ H102.size := by rw [z103]; exact hz
    obtain ⟨h104, e105⟩ : ∃ z, z = hu h98 x (.inr (8, [.ref q2, .ref q17, .ref q32, .ref q89, .null, .int 0, .int 0, .ref q59, .ref q74])) := ⟨_, rfl⟩
    have hH : hm D vwCl G h104 H102 := by rw [e105]; exact hH
    have hnd : rowP (.inr (1, [.int 0, .null, .int 1, .long 0, .int 0, .int 0, .int 0, .int 0, .int 0, .int 0, .int 1])) fs 0 30 h104 := by rw [e105]; exact rowP_put hnd (by rw [f_x]; simp)
    have hrow : rowP (.inr (6, [.int 0, .int 0, .null])) fa 0 100 h104 := by rw [e105]; exact rowP_put hrow (by rw [f_x]; simp)
    have f_wr : h104 q2 = some (.inr (7, [.ref su, .ref pg])) := by rw [e105, hu_n (Ne.symm ne_x_q2)]; exact f_wr
    have f_su : h104 su = some (.inr (4, [.int (-1), .int 0, .int 0])) := by rw [e105, hu_n (h_neC f_su f_x (by decide))]; exact f_su
    have f_pg : h104 pg = some (.inr (3, [.ref pb])) := by rw [e105, hu_n (h_neC f_pg f_x (by decide))]; exact f_pg
    have f_pb : h104 pb = some (.inl ((t 0), 2048, .inl (fun _ => 0))) := by rw [e105, hu_n (h_neA f_pb f_x)]; exact f_pb
    have f_ns : h104 q32 = some (.inr (2, [.ref sl, .ref od, .int 1, .int 1])) := by rw [e105, hu_n (Ne.symm ne_x_q32)]; exact f_ns
    have f_sl : h104 sl = some (.inl ((t 4), 30, .inr (.inr (.inr (.inr fs))))) := by rw [e105, hu_n (h_neA f_sl f_x)]; exact f_sl
    have f_od : h104 od = some (.inl ((t 4), 30, .inr (.inr (.inr (.inr g))))) := by rw [e105, hu_n (h_neA f_od f_x)]; exact f_od
    have f_md : h104 q89 = some (.inr (0, [.ref sa, .int 0])) := by rw [e105, hu_n (Ne.symm ne_x_q89)]; exact f_md
    have f_sa : h104 sa = some (.inl ((t 5), 100, .inr (.inr (.inr (.inr fa))))) := by rw [e105, hu_n (h_neA f_sa f_x)]; exact f_sa
    have f_x : h104 x = some (.inr (8, [.ref q2, .ref q17, .ref q32, .ref q89, .null, .int 0, .int 0, .ref q59, .ref q74])) := by rw [e105]; exact hu_s _ _ _
    have hkp : kp [x] h h104 := by rw [e105]; exact kp_put hkp (by simp)
    have f_md : h104 q89 = some (.inr (0, [.ref sa, .int (nI 0)])) := by rw [nI_0]; exact f_md
    rw [← hz9] at f_sa hrow
    exact W.vret hx hb hr (fun t9 ht hW => ⟨h104, rfl, ⟨hkp, q2, q17, q32, q59, q74, q89, su, pg, pb, sl, od, sa, fs, g, fa, f_x, f_wr, f_su, f_pg, f_pb, f_ns, f_sl, f_od, hgf, hnd, f_md, f_sa, hrow, ne_sl_od, by omega, by omega⟩, by rw [ht]; exact hH, by rw [ht]; exact hz⟩) hLo d_Di_init_104
  · skip
    refine lv_iload_n hx hb d_Di_init_85 rfl (lv_at hl 1 rfl) ?_
    refine lv_sipush (v := 200) hx hb d_Di_init_86 (by decide) ?_
    refine lv_icmp_gt (tgt := 96) hx hb d_Di_init_89 (by decide) (fun hc106 => ?_) (fun hc106 => ?_)
    · skip
      have hz9 := nsz_hi hc106
      refine lv_bipush (v := 100) hx hb d_Di_init_96 (by decide) ?_
      refine lv_topi (fun v107 e108 => ?_)
      obtain rfl : v107 = nI 100 := e108.trans (by decide)
      refine hm_callv (va_runI (As := [.int (nI 100)]) (b := q89) (rest := [.ref q89, .ref x]) ⟨hx, hb, hml, hown, hts⟩ (c_Medium_init l D t G ak av h93 q89 100 f_md (by omega)) ⟨cw9B 1 hts mw_266 mw_267 mw_163 rfl rfl (by decide +kernel) ⟨Nat.le_of_ble_eq_true rfl, Nat.le_of_ble_eq_true rfl⟩, rfl, hts _ mw_268⟩ (hP_S kE_ok hE hH) rfl rfl hl.1 rfl (lv_room (Nat.le_of_ble_eq_true rfl)) d_Di_init_98 ⟨Nat.le_of_ble_eq_true rfl, Nat.le_of_ble_eq_true rfl⟩) hLo (fun h109 H110 locs hp112 hH z111 hLo => ?_)
      have hz : s.heap.size ≤ H110.size := Nat.le_trans hz z111
      obtain ⟨hk9, sa, fa, hq9, ha9, hrow⟩ := hp112
      have hnd : rowP (.inr (1, [.int 0, .null, .int 1, .long 0, .int 0, .int 0, .int 0, .int 0, .int 0, .int 0, .int 1])) fs 0 30 h109 := rowP_kp hnd hk9 (List.forall_mem_cons.mpr ⟨by rw [f_md]; simp, List.forall_mem_nil _⟩)
      have f_x : h109 x = some (.inr (8, [.ref q2, .ref q17, .ref q32, .null, .null, .int 0, .int 0, .ref q59, .ref q74])) := kp_at hk9 f_x (nmc ne_x_q89 nm0)
      have f_wr : h109 q2 = some (.inr (7, [.ref su, .ref pg])) := kp_at hk9 f_wr (nmc ne_q2_q89 nm0)
      have f_su : h109 su = some (.inr (4, [.int (-1), .int 0, .int 0])) := kp_at hk9 f_su (nmc ne_su_q89 nm0)
      have f_pg : h109 pg = some (.inr (3, [.ref pb])) := kp_at hk9 f_pg (nmc ne_pg_q89 nm0)
      have f_pb : h109 pb = some (.inl ((t 0), 2048, .inl (fun _ => 0))) := kp_at hk9 f_pb (nmc ne_pb_q89 nm0)
      have f_ns : h109 q32 = some (.inr (2, [.ref sl, .ref od, .int 1, .int 1])) := kp_at hk9 f_ns (nmc ne_q32_q89 nm0)
      have f_sl : h109 sl = some (.inl ((t 4), 30, .inr (.inr (.inr (.inr fs))))) := kp_at hk9 f_sl (nmc ne_sl_q89 nm0)
      have f_od : h109 od = some (.inl ((t 4), 30, .inr (.inr (.inr (.inr g))))) := kp_at hk9 f_od (nmc ne_od_q89 nm0)
      have hkp : kp [x] h h109 := kp_tr2 hkp hk9 (List.forall_mem_cons.mpr ⟨Or.inr nb_h_q89, List.forall_mem_nil _⟩)
      have f_md : h109 q89 = some (.inr (0, [.ref sa, .int 0])) := hq9
      have f_sa : h109 sa = some (.inl ((t 5), 100, .inr (.inr (.inr (.inr fa))))) := ha9
      refine hm_put (ci := 8) (v := .ref q89) (ty := (.object "WriteOnceDisc$Medium")) (C := R_Di) (T := F_Di) (N := 9) hx hb hts ig_Di t_Di tk_Di nm_Di hown hK hH hLo f_x rfl 3 (by decide) (hts _ mw_269) (fun _ h9 => h9) rfl (by decide +kernel) rfl rfl (Nat.le_of_ble_eq_true rfl) d_Di_init_101 (fun H113 locs hH z114 hLo => ?_)
      have hz : s.heap.size ≤ H113.size := by rw [z114]; exact hz
      obtain ⟨h115, e116⟩ : ∃ z, z = hu h109 x (.inr (8, [.ref q2, .ref q17, .ref q32, .ref q89, .null, .int 0, .int 0, .ref q59, .ref q74])) := ⟨_, rfl⟩
      have hH : hm D vwCl G h115 H113 := by rw [e116]; exact hH
      have hnd : rowP (.inr (1, [.int 0, .null, .int 1, .long 0, .int 0, .int 0, .int 0, .int 0, .int 0, .int 0, .int 1])) fs 0 30 h115 := by rw [e116]; exact rowP_put hnd (by rw [f_x]; simp)
      have hrow : rowP (.inr (6, [.int 0, .int 0, .null])) fa 0 100 h115 := by rw [e116]; exact rowP_put hrow (by rw [f_x]; simp)
      have f_wr : h115 q2 = some (.inr (7, [.ref su, .ref pg])) := by rw [e116, hu_n (Ne.symm ne_x_q2)]; exact f_wr
      have f_su : h115 su = some (.inr (4, [.int (-1), .int 0, .int 0])) := by rw [e116, hu_n (h_neC f_su f_x (by decide))]; exact f_su
      have f_pg : h115 pg = some (.inr (3, [.ref pb])) := by rw [e116, hu_n (h_neC f_pg f_x (by decide))]; exact f_pg
      have f_pb : h115 pb = some (.inl ((t 0), 2048, .inl (fun _ => 0))) := by rw [e116, hu_n (h_neA f_pb f_x)]; exact f_pb
      have f_ns : h115 q32 = some (.inr (2, [.ref sl, .ref od, .int 1, .int 1])) := by rw [e116, hu_n (Ne.symm ne_x_q32)]; exact f_ns
      have f_sl : h115 sl = some (.inl ((t 4), 30, .inr (.inr (.inr (.inr fs))))) := by rw [e116, hu_n (h_neA f_sl f_x)]; exact f_sl
      have f_od : h115 od = some (.inl ((t 4), 30, .inr (.inr (.inr (.inr g))))) := by rw [e116, hu_n (h_neA f_od f_x)]; exact f_od
      have f_md : h115 q89 = some (.inr (0, [.ref sa, .int 0])) := by rw [e116, hu_n (Ne.symm ne_x_q89)]; exact f_md
      have f_sa : h115 sa = some (.inl ((t 5), 100, .inr (.inr (.inr (.inr fa))))) := by rw [e116, hu_n (h_neA f_sa f_x)]; exact f_sa
      have f_x : h115 x = some (.inr (8, [.ref q2, .ref q17, .ref q32, .ref q89, .null, .int 0, .int 0, .ref q59, .ref q74])) := by rw [e116]; exact hu_s _ _ _
      have hkp : kp [x] h h115 := by rw [e116]; exact kp_put hkp (by simp)
      have f_md : h115 q89 = some (.inr (0, [.ref sa, .int (nI 0)])) := by rw [nI_0]; exact f_md
      rw [← hz9] at f_sa hrow
      exact W.vret hx hb hr (fun t9 ht hW => ⟨h115, rfl, ⟨hkp, q2, q17, q32, q59, q74, q89, su, pg, pb, sl, od, sa, fs, g, fa, f_x, f_wr, f_su, f_pg, f_pb, f_ns, f_sl, f_od, hgf, hnd, f_md, f_sa, hrow, ne_sl_od, by omega, by omega⟩, by rw [ht]; exact hH, by rw [ht]; exact hz⟩) hLo d_Di_init_104
    · skip
      obtain ⟨h40, h200, hv9⟩ := nsz_in hc95 hc106
      refine lv_iload_n hx hb d_Di_init_92 rfl (lv_at hl 1 rfl) ?_
      refine lv_goto (tgt := 98) hx hb d_Di_init_93 (by decide) ?_
      refine lv_topi (fun v117 e118 => ?_)
      obtain rfl : v117 = nI (nsz v) := e118.trans (hv9)
      refine hm_callv (va_runI (As := [.int (nI (nsz v))]) (b := q89) (rest := [.ref q89, .ref x]) ⟨hx, hb, hml, hown, hts⟩ (c_Medium_init l D t G ak av h93 q89 (nsz v) f_md (by omega)) ⟨cw9B 1 hts mw_266 mw_267 mw_163 rfl rfl (by decide +kernel) ⟨Nat.le_of_ble_eq_true rfl, Nat.le_of_ble_eq_true rfl⟩, rfl, hts _ mw_268⟩ (hP_S kE_ok hE hH) rfl rfl hl.1 rfl (lv_room (Nat.le_of_ble_eq_true rfl)) d_Di_init_98 ⟨Nat.le_of_ble_eq_true rfl, Nat.le_of_ble_eq_true rfl⟩) hLo (fun h119 H120 locs hp122 hH z121 hLo => ?_)
      have hz : s.heap.size ≤ H120.size := Nat.le_trans hz z121
      obtain ⟨hk9, sa, fa, hq9, ha9, hrow⟩ := hp122
      have hnd : rowP (.inr (1, [.int 0, .null, .int 1, .long 0, .int 0, .int 0, .int 0, .int 0, .int 0, .int 0, .int 1])) fs 0 30 h119 := rowP_kp hnd hk9 (List.forall_mem_cons.mpr ⟨by rw [f_md]; simp, List.forall_mem_nil _⟩)
      have f_x : h119 x = some (.inr (8, [.ref q2, .ref q17, .ref q32, .null, .null, .int 0, .int 0, .ref q59, .ref q74])) := kp_at hk9 f_x (nmc ne_x_q89 nm0)
      have f_wr : h119 q2 = some (.inr (7, [.ref su, .ref pg])) := kp_at hk9 f_wr (nmc ne_q2_q89 nm0)
      have f_su : h119 su = some (.inr (4, [.int (-1), .int 0, .int 0])) := kp_at hk9 f_su (nmc ne_su_q89 nm0)
      have f_pg : h119 pg = some (.inr (3, [.ref pb])) := kp_at hk9 f_pg (nmc ne_pg_q89 nm0)
      have f_pb : h119 pb = some (.inl ((t 0), 2048, .inl (fun _ => 0))) := kp_at hk9 f_pb (nmc ne_pb_q89 nm0)
      have f_ns : h119 q32 = some (.inr (2, [.ref sl, .ref od, .int 1, .int 1])) := kp_at hk9 f_ns (nmc ne_q32_q89 nm0)
      have f_sl : h119 sl = some (.inl ((t 4), 30, .inr (.inr (.inr (.inr fs))))) := kp_at hk9 f_sl (nmc ne_sl_q89 nm0)
      have f_od : h119 od = some (.inl ((t 4), 30, .inr (.inr (.inr (.inr g))))) := kp_at hk9 f_od (nmc ne_od_q89 nm0)
      have hkp : kp [x] h h119 := kp_tr2 hkp hk9 (List.forall_mem_cons.mpr ⟨Or.inr nb_h_q89, List.forall_mem_nil _⟩)
      have f_md : h119 q89 = some (.inr (0, [.ref sa, .int 0])) := hq9
      have f_sa : h119 sa = some (.inl ((t 5), (nsz v), .inr (.inr (.inr (.inr fa))))) := ha9
      refine hm_put (ci := 8) (v := .ref q89) (ty := (.object "WriteOnceDisc$Medium")) (C := R_Di) (T := F_Di) (N := 9) hx hb hts ig_Di t_Di tk_Di nm_Di hown hK hH hLo f_x rfl 3 (by decide) (hts _ mw_269) (fun _ h9 => h9) rfl (by decide +kernel) rfl rfl (Nat.le_of_ble_eq_true rfl) d_Di_init_101 (fun H123 locs hH z124 hLo => ?_)
      have hz : s.heap.size ≤ H123.size := by rw [z124]; exact hz
      obtain ⟨h125, e126⟩ : ∃ z, z = hu h119 x (.inr (8, [.ref q2, .ref q17, .ref q32, .ref q89, .null, .int 0, .int 0, .ref q59, .ref q74])) := ⟨_, rfl⟩
      have hH : hm D vwCl G h125 H123 := by rw [e126]; exact hH
      have hnd : rowP (.inr (1, [.int 0, .null, .int 1, .long 0, .int 0, .int 0, .int 0, .int 0, .int 0, .int 0, .int 1])) fs 0 30 h125 := by rw [e126]; exact rowP_put hnd (by rw [f_x]; simp)
      have hrow : rowP (.inr (6, [.int 0, .int 0, .null])) fa 0 (nsz v) h125 := by rw [e126]; exact rowP_put hrow (by rw [f_x]; simp)
      have f_wr : h125 q2 = some (.inr (7, [.ref su, .ref pg])) := by rw [e126, hu_n (Ne.symm ne_x_q2)]; exact f_wr
      have f_su : h125 su = some (.inr (4, [.int (-1), .int 0, .int 0])) := by rw [e126, hu_n (h_neC f_su f_x (by decide))]; exact f_su
      have f_pg : h125 pg = some (.inr (3, [.ref pb])) := by rw [e126, hu_n (h_neC f_pg f_x (by decide))]; exact f_pg
      have f_pb : h125 pb = some (.inl ((t 0), 2048, .inl (fun _ => 0))) := by rw [e126, hu_n (h_neA f_pb f_x)]; exact f_pb
      have f_ns : h125 q32 = some (.inr (2, [.ref sl, .ref od, .int 1, .int 1])) := by rw [e126, hu_n (Ne.symm ne_x_q32)]; exact f_ns
      have f_sl : h125 sl = some (.inl ((t 4), 30, .inr (.inr (.inr (.inr fs))))) := by rw [e126, hu_n (h_neA f_sl f_x)]; exact f_sl
      have f_od : h125 od = some (.inl ((t 4), 30, .inr (.inr (.inr (.inr g))))) := by rw [e126, hu_n (h_neA f_od f_x)]; exact f_od
      have f_md : h125 q89 = some (.inr (0, [.ref sa, .int 0])) := by rw [e126, hu_n (Ne.symm ne_x_q89)]; exact f_md
      have f_sa : h125 sa = some (.inl ((t 5), (nsz v), .inr (.inr (.inr (.inr fa))))) := by rw [e126, hu_n (h_neA f_sa f_x)]; exact f_sa
      have f_x : h125 x = some (.inr (8, [.ref q2, .ref q17, .ref q32, .ref q89, .null, .int 0, .int 0, .ref q59, .ref q74])) := by rw [e126]; exact hu_s _ _ _
      have hkp : kp [x] h h125 := by rw [e126]; exact kp_put hkp (by simp)
      have f_md : h125 q89 = some (.inr (0, [.ref sa, .int (nI 0)])) := by rw [nI_0]; exact f_md
      exact W.vret hx hb hr (fun t9 ht hW => ⟨h125, rfl, ⟨hkp, q2, q17, q32, q59, q74, q89, su, pg, pb, sl, od, sa, fs, g, fa, f_x, f_wr, f_su, f_pg, f_pb, f_ns, f_sl, f_od, hgf, hnd, f_md, f_sa, hrow, ne_sl_od, by omega, by omega⟩, by rw [ht]; exact hH, by rw [ht]; exact hz⟩) hLo d_Di_init_104
end
section
set_option maxRecDepth 100000 in
theorem mw_270 : Cond.code y_Di_isNameByte b_Di_isNameByte 1 (some .boolean) ∈ lw_g := lw_gin (List.mem_append_right _ (List.mem_of_getElem? (i := 305) rfl)) (by decide +kernel)
set_option maxRecDepth 100000 in
theorem mw_271 : Cond.methodLink R_Di 241 y_Di_isNameByte ∈ lw_g := lw_gin (List.mem_append_right _ (List.mem_of_getElem? (i := 303) rfl)) (by decide +kernel)
set_option maxRecDepth 100000 in
theorem mw_272 : Cond.static y_Di_isNameByte ∈ lw_g := lw_gin (List.mem_append_right _ (List.mem_of_getElem? (i := 304) rfl)) (by decide +kernel)
set_option maxRecDepth 100000 in
theorem mw_273 : Cond.fieldLink R_Ns 36 "WriteOnceDisc$Node" "number" "I" ∈ lw_g := lw_gin (List.mem_append_right _ (List.mem_of_getElem? (i := 91) rfl)) (by decide +kernel)
set_option maxRecDepth 100000 in
theorem mw_274 : Cond.code y_Ns_nodeOf b_Ns_nodeOf 3 (some (.object "WriteOnceDisc$Node")) ∈ lw_g := lw_gin (List.mem_append_right _ (List.mem_of_getElem? (i := 291) rfl)) (by decide +kernel)
set_option maxRecDepth 100000 in
theorem mw_275 : Cond.methodLink R_Ns 50 y_Ns_nodeOf ∈ lw_g := lw_gin (List.mem_append_right _ (List.mem_of_getElem? (i := 288) rfl)) (by decide +kernel)
set_option maxRecDepth 100000 in
theorem mw_276 : Cond.instanceMethod y_Ns_nodeOf ∈ lw_g := lw_gin (List.mem_append_right _ (List.mem_of_getElem? (i := 289) rfl)) (by decide +kernel)
set_option maxRecDepth 100000 in
theorem mw_277 : Cond.selects R_Ns y_Ns_nodeOf y_Ns_nodeOf ∈ lw_g := lw_gin (List.mem_append_right _ (List.mem_of_getElem? (i := 290) rfl)) (by decide +kernel)
set_option maxRecDepth 100000 in
theorem mw_278 : Cond.code y_No_takeName b_No_takeName 4 none ∈ lw_g := lw_gin (List.mem_append_right _ (List.mem_of_getElem? (i := 321) rfl)) (by decide +kernel)
set_option maxRecDepth 100000 in
theorem mw_279 : Cond.methodLink R_No 48 y_No_takeName ∈ lw_g := lw_gin (List.mem_append_right _ (List.mem_of_getElem? (i := 318) rfl)) (by decide +kernel)
set_option maxRecDepth 100000 in
theorem mw_280 : Cond.instanceMethod y_No_takeName ∈ lw_g := lw_gin (List.mem_append_right _ (List.mem_of_getElem? (i := 319) rfl)) (by decide +kernel)
set_option maxRecDepth 100000 in
theorem mw_281 : Cond.selects R_No y_No_takeName y_No_takeName ∈ lw_g := lw_gin (List.mem_append_right _ (List.mem_of_getElem? (i := 320) rfl)) (by decide +kernel)
set_option maxRecDepth 100000 in
theorem mw_282 : Cond.code y_No_takeContent b_No_takeContent 3 none ∈ lw_g := lw_gin (List.mem_append_right _ (List.mem_of_getElem? (i := 325) rfl)) (by decide +kernel)
set_option maxRecDepth 100000 in
theorem mw_283 : Cond.methodLink R_No 52 y_No_takeContent ∈ lw_g := lw_gin (List.mem_append_right _ (List.mem_of_getElem? (i := 322) rfl)) (by decide +kernel)
set_option maxRecDepth 100000 in
theorem mw_284 : Cond.instanceMethod y_No_takeContent ∈ lw_g := lw_gin (List.mem_append_right _ (List.mem_of_getElem? (i := 323) rfl)) (by decide +kernel)
set_option maxRecDepth 100000 in
theorem mw_285 : Cond.selects R_No y_No_takeContent y_No_takeContent ∈ lw_g := lw_gin (List.mem_append_right _ (List.mem_of_getElem? (i := 324) rfl)) (by decide +kernel)
theorem d_Di_isNameByte_0 : decode b_Di_isNameByte 0 = .ok (.iload_n 0, 1) := by decide +kernel
theorem d_Di_isNameByte_1 : decode b_Di_isNameByte 1 = .ok (.bipush 65, 2) := by decide +kernel
theorem d_Di_isNameByte_3 : decode b_Di_isNameByte 3 = .ok (.if_icmp .lt 9, 3) := by decide +kernel
theorem d_Di_isNameByte_12 : decode b_Di_isNameByte 12 = .ok (.iload_n 0, 1) := by decide +kernel
theorem d_Di_isNameByte_13 : decode b_Di_isNameByte 13 = .ok (.bipush 48, 2) := by decide +kernel
theorem d_Di_isNameByte_15 : decode b_Di_isNameByte 15 = .ok (.if_icmp .lt 9, 3) := by decide +kernel
theorem d_Di_isNameByte_24 : decode b_Di_isNameByte 24 = .ok (.iload_n 0, 1) := by decide +kernel
theorem d_Di_isNameByte_25 : decode b_Di_isNameByte 25 = .ok (.bipush 95, 2) := by decide +kernel
theorem d_Di_isNameByte_27 : decode b_Di_isNameByte 27 = .ok (.if_icmp .ne 7, 3) := by decide +kernel
theorem d_Di_isNameByte_34 : decode b_Di_isNameByte 34 = .ok (.iconst 0, 1) := by decide +kernel
theorem d_Di_isNameByte_35 : decode b_Di_isNameByte 35 = .ok (.ireturn, 1) := by decide +kernel
theorem d_Di_isNameByte_30 : decode b_Di_isNameByte 30 = .ok (.iconst 1, 1) := by decide +kernel
theorem d_Di_isNameByte_31 : decode b_Di_isNameByte 31 = .ok (.goto 4, 3) := by decide +kernel
theorem d_Di_isNameByte_18 : decode b_Di_isNameByte 18 = .ok (.iload_n 0, 1) := by decide +kernel
theorem d_Di_isNameByte_19 : decode b_Di_isNameByte 19 = .ok (.bipush 57, 2) := by decide +kernel
theorem d_Di_isNameByte_21 : decode b_Di_isNameByte 21 = .ok (.if_icmp .le 9, 3) := by decide +kernel
theorem d_Di_isNameByte_6 : decode b_Di_isNameByte 6 = .ok (.iload_n 0, 1) := by decide +kernel
theorem d_Di_isNameByte_7 : decode b_Di_isNameByte 7 = .ok (.bipush 90, 2) := by decide +kernel
theorem d_Di_isNameByte_9 : decode b_Di_isNameByte 9 = .ok (.if_icmp .le 21, 3) := by decide +kernel
theorem d_Di_nameIn_0 : decode b_Di_nameIn 0 = .ok (.lconst 0, 1) := by decide +kernel
theorem d_Di_nameIn_1 : decode b_Di_nameIn 1 = .ok (.lstore_n 2, 1) := by decide +kernel
theorem d_Di_nameIn_2 : decode b_Di_nameIn 2 = .ok (.bipush 56, 2) := by decide +kernel
theorem d_Di_nameIn_4 : decode b_Di_nameIn 4 = .ok (.istore 4, 2) := by decide +kernel
theorem d_Di_nameIn_6 : decode b_Di_nameIn 6 = .ok (.iload 4, 2) := by decide +kernel
theorem d_Di_nameIn_8 : decode b_Di_nameIn 8 = .ok (.ifCond .lt 49, 3) := by decide +kernel
theorem d_Di_nameIn_57 : decode b_Di_nameIn 57 = .ok (.lload_n 2, 1) := by decide +kernel
theorem d_Di_nameIn_58 : decode b_Di_nameIn 58 = .ok (.lreturn, 1) := by decide +kernel
theorem d_Di_nameIn_11 : decode b_Di_nameIn 11 = .ok (.lload_n 0, 1) := by decide +kernel
theorem d_Di_nameIn_12 : decode b_Di_nameIn 12 = .ok (.iload 4, 2) := by decide +kernel
theorem d_Di_nameIn_14 : decode b_Di_nameIn 14 = .ok (.lushr, 1) := by decide +kernel
theorem d_Di_nameIn_15 : decode b_Di_nameIn 15 = .ok (.l2i, 1) := by decide +kernel
theorem d_Di_nameIn_16 : decode b_Di_nameIn 16 = .ok (.sipush 255, 3) := by decide +kernel
theorem d_Di_nameIn_19 : decode b_Di_nameIn 19 = .ok (.iand, 1) := by decide +kernel
theorem d_Di_nameIn_20 : decode b_Di_nameIn 20 = .ok (.istore 5, 2) := by decide +kernel
theorem d_Di_nameIn_22 : decode b_Di_nameIn 22 = .ok (.iload 5, 2) := by decide +kernel
theorem d_Di_nameIn_24 : decode b_Di_nameIn 24 = .ok (.ifCond .eq 13, 3) := by decide +kernel
theorem d_Di_nameIn_37 : decode b_Di_nameIn 37 = .ok (.iload 5, 2) := by decide +kernel
theorem d_Di_nameIn_39 : decode b_Di_nameIn 39 = .ok (.ifCond .eq 12, 3) := by decide +kernel
theorem d_Di_nameIn_51 : decode b_Di_nameIn 51 = .ok (.iinc 4 (-8), 3) := by decide +kernel
theorem d_Di_nameIn_54 : decode b_Di_nameIn 54 = .ok (.goto (-48), 3) := by decide +kernel
theorem d_Di_nameIn_27 : decode b_Di_nameIn 27 = .ok (.iload 5, 2) := by decide +kernel
theorem d_Di_nameIn_29 : decode b_Di_nameIn 29 = .ok (.invokestatic 241, 3) := by decide +kernel
theorem d_Di_nameIn_32 : decode b_Di_nameIn 32 = .ok (.ifCond .ne 5, 3) := by decide +kernel
theorem d_Di_nameIn_42 : decode b_Di_nameIn 42 = .ok (.lload_n 2, 1) := by decide +kernel
theorem d_Di_nameIn_43 : decode b_Di_nameIn 43 = .ok (.bipush 8, 2) := by decide +kernel
theorem d_Di_nameIn_45 : decode b_Di_nameIn 45 = .ok (.lshl, 1) := by decide +kernel
theorem d_Di_nameIn_46 : decode b_Di_nameIn 46 = .ok (.iload 5, 2) := by decide +kernel
theorem d_Di_nameIn_48 : decode b_Di_nameIn 48 = .ok (.i2l, 1) := by decide +kernel
theorem d_Di_nameIn_49 : decode b_Di_nameIn 49 = .ok (.lor, 1) := by decide +kernel
theorem d_Di_nameIn_50 : decode b_Di_nameIn 50 = .ok (.lstore_n 2, 1) := by decide +kernel
theorem d_Di_nameIn_35 : decode b_Di_nameIn 35 = .ok (.lconst 0, 1) := by decide +kernel
theorem d_Di_nameIn_36 : decode b_Di_nameIn 36 = .ok (.lreturn, 1) := by decide +kernel
theorem d_Di_isContent_0 : decode b_Di_isContent 0 = .ok (.iload_n 0, 1) := by decide +kernel
theorem d_Di_isContent_1 : decode b_Di_isContent 1 = .ok (.ifCond .lt 25, 3) := by decide +kernel
theorem d_Di_isContent_26 : decode b_Di_isContent 26 = .ok (.iconst 0, 1) := by decide +kernel
theorem d_Di_isContent_27 : decode b_Di_isContent 27 = .ok (.ireturn, 1) := by decide +kernel
theorem d_Di_isContent_4 : decode b_Di_isContent 4 = .ok (.iload_n 0, 1) := by decide +kernel
theorem d_Di_isContent_5 : decode b_Di_isContent 5 = .ok (.sipush 6000, 3) := by decide +kernel
theorem d_Di_isContent_8 : decode b_Di_isContent 8 = .ok (.if_icmp .gt 18, 3) := by decide +kernel
theorem d_Di_isContent_11 : decode b_Di_isContent 11 = .ok (.iload_n 1, 1) := by decide +kernel
theorem d_Di_isContent_12 : decode b_Di_isContent 12 = .ok (.ifCond .lt 14, 3) := by decide +kernel
theorem d_Di_isContent_15 : decode b_Di_isContent 15 = .ok (.iload_n 1, 1) := by decide +kernel
theorem d_Di_isContent_16 : decode b_Di_isContent 16 = .ok (.sipush 255, 3) := by decide +kernel
theorem d_Di_isContent_19 : decode b_Di_isContent 19 = .ok (.if_icmp .gt 7, 3) := by decide +kernel
theorem d_Di_isContent_22 : decode b_Di_isContent 22 = .ok (.iconst 1, 1) := by decide +kernel
theorem d_Di_isContent_23 : decode b_Di_isContent 23 = .ok (.goto 4, 3) := by decide +kernel
theorem d_Ns_nodeOf_0 : decode b_Ns_nodeOf 0 = .ok (.iconst 0, 1) := by decide +kernel
theorem d_Ns_nodeOf_1 : decode b_Ns_nodeOf 1 = .ok (.istore_n 2, 1) := by decide +kernel
theorem d_Ns_nodeOf_2 : decode b_Ns_nodeOf 2 = .ok (.iload_n 2, 1) := by decide +kernel
theorem d_Ns_nodeOf_3 : decode b_Ns_nodeOf 3 = .ok (.aload_n 0, 1) := by decide +kernel
theorem d_Ns_nodeOf_4 : decode b_Ns_nodeOf 4 = .ok (.getfield 20, 3) := by decide +kernel
theorem d_Ns_nodeOf_7 : decode b_Ns_nodeOf 7 = .ok (.if_icmp .ge 29, 3) := by decide +kernel
theorem d_Ns_nodeOf_10 : decode b_Ns_nodeOf 10 = .ok (.aload_n 0, 1) := by decide +kernel
theorem d_Ns_nodeOf_11 : decode b_Ns_nodeOf 11 = .ok (.getfield 11, 3) := by decide +kernel
theorem d_Ns_nodeOf_14 : decode b_Ns_nodeOf 14 = .ok (.iload_n 2, 1) := by decide +kernel
theorem d_Ns_nodeOf_15 : decode b_Ns_nodeOf 15 = .ok (.aaload, 1) := by decide +kernel
theorem d_Ns_nodeOf_16 : decode b_Ns_nodeOf 16 = .ok (.getfield 36, 3) := by decide +kernel
theorem d_Ns_nodeOf_19 : decode b_Ns_nodeOf 19 = .ok (.iload_n 1, 1) := by decide +kernel
theorem d_Ns_nodeOf_20 : decode b_Ns_nodeOf 20 = .ok (.if_icmp .ne 10, 3) := by decide +kernel
theorem d_Ns_nodeOf_30 : decode b_Ns_nodeOf 30 = .ok (.iinc 2 1, 3) := by decide +kernel
theorem d_Ns_nodeOf_33 : decode b_Ns_nodeOf 33 = .ok (.goto (-31), 3) := by decide +kernel
theorem d_Ns_nodeOf_36 : decode b_Ns_nodeOf 36 = .ok (.aconst_null, 1) := by decide +kernel
theorem d_Ns_nodeOf_37 : decode b_Ns_nodeOf 37 = .ok (.areturn, 1) := by decide +kernel
theorem d_Ns_nodeOf_23 : decode b_Ns_nodeOf 23 = .ok (.aload_n 0, 1) := by decide +kernel
theorem d_Ns_nodeOf_24 : decode b_Ns_nodeOf 24 = .ok (.getfield 11, 3) := by decide +kernel
theorem d_Ns_nodeOf_27 : decode b_Ns_nodeOf 27 = .ok (.iload_n 2, 1) := by decide +kernel
theorem d_Ns_nodeOf_28 : decode b_Ns_nodeOf 28 = .ok (.aaload, 1) := by decide +kernel
theorem d_Ns_nodeOf_29 : decode b_Ns_nodeOf 29 = .ok (.areturn, 1) := by decide +kernel
theorem d_Ns_directoryOf_0 : decode b_Ns_directoryOf 0 = .ok (.aload_n 0, 1) := by decide +kernel
theorem d_Ns_directoryOf_1 : decode b_Ns_directoryOf 1 = .ok (.iload_n 1, 1) := by decide +kernel
theorem d_Ns_directoryOf_2 : decode b_Ns_directoryOf 2 = .ok (.invokevirtual 50, 3) := by decide +kernel
theorem d_Ns_directoryOf_5 : decode b_Ns_directoryOf 5 = .ok (.astore_n 2, 1) := by decide +kernel
theorem d_Ns_directoryOf_6 : decode b_Ns_directoryOf 6 = .ok (.aload_n 2, 1) := by decide +kernel
theorem d_Ns_directoryOf_7 : decode b_Ns_directoryOf 7 = .ok (.ifnull 14, 3) := by decide +kernel
theorem d_Ns_directoryOf_10 : decode b_Ns_directoryOf 10 = .ok (.aload_n 2, 1) := by decide +kernel
theorem d_Ns_directoryOf_11 : decode b_Ns_directoryOf 11 = .ok (.getfield 58, 3) := by decide +kernel
theorem d_Ns_directoryOf_14 : decode b_Ns_directoryOf 14 = .ok (.ifCond .eq 7, 3) := by decide +kernel
theorem d_Ns_directoryOf_17 : decode b_Ns_directoryOf 17 = .ok (.aload_n 2, 1) := by decide +kernel
theorem d_Ns_directoryOf_18 : decode b_Ns_directoryOf 18 = .ok (.goto 4, 3) := by decide +kernel
theorem d_Ns_directoryOf_22 : decode b_Ns_directoryOf 22 = .ok (.areturn, 1) := by decide +kernel
theorem d_Ns_directoryOf_21 : decode b_Ns_directoryOf 21 = .ok (.aconst_null, 1) := by decide +kernel
theorem d_No_depth_0 : decode b_No_depth 0 = .ok (.iconst 0, 1) := by decide +kernel
theorem d_No_depth_1 : decode b_No_depth 1 = .ok (.istore_n 1, 1) := by decide +kernel
theorem d_No_depth_2 : decode b_No_depth 2 = .ok (.aload_n 0, 1) := by decide +kernel
theorem d_No_depth_3 : decode b_No_depth 3 = .ok (.getfield 15, 3) := by decide +kernel
theorem d_No_depth_6 : decode b_No_depth 6 = .ok (.astore_n 2, 1) := by decide +kernel
theorem d_No_depth_7 : decode b_No_depth 7 = .ok (.aload_n 2, 1) := by decide +kernel
theorem d_No_depth_8 : decode b_No_depth 8 = .ok (.ifnull 14, 3) := by decide +kernel
theorem d_No_depth_22 : decode b_No_depth 22 = .ok (.iload_n 1, 1) := by decide +kernel
theorem d_No_depth_23 : decode b_No_depth 23 = .ok (.ireturn, 1) := by decide +kernel
theorem d_Ns_hasOtherNamed_0 : decode b_Ns_hasOtherNamed 0 = .ok (.iconst 0, 1) := by decide +kernel
theorem d_Ns_hasOtherNamed_1 : decode b_Ns_hasOtherNamed 1 = .ok (.istore 5, 2) := by decide +kernel
theorem d_Ns_hasOtherNamed_3 : decode b_Ns_hasOtherNamed 3 = .ok (.iload 5, 2) := by decide +kernel
theorem d_Ns_hasOtherNamed_5 : decode b_Ns_hasOtherNamed 5 = .ok (.aload_n 0, 1) := by decide +kernel
theorem d_Ns_hasOtherNamed_6 : decode b_Ns_hasOtherNamed 6 = .ok (.getfield 20, 3) := by decide +kernel
theorem d_Ns_hasOtherNamed_9 : decode b_Ns_hasOtherNamed 9 = .ok (.if_icmp .ge 52, 3) := by decide +kernel
theorem d_Ns_hasOtherNamed_12 : decode b_Ns_hasOtherNamed 12 = .ok (.aload_n 0, 1) := by decide +kernel
theorem d_Ns_hasOtherNamed_13 : decode b_Ns_hasOtherNamed 13 = .ok (.getfield 11, 3) := by decide +kernel
theorem d_Ns_hasOtherNamed_16 : decode b_Ns_hasOtherNamed 16 = .ok (.iload 5, 2) := by decide +kernel
theorem d_Ns_hasOtherNamed_18 : decode b_Ns_hasOtherNamed 18 = .ok (.aaload, 1) := by decide +kernel
theorem d_Ns_hasOtherNamed_19 : decode b_Ns_hasOtherNamed 19 = .ok (.getfield 54, 3) := by decide +kernel
theorem d_Ns_hasOtherNamed_22 : decode b_Ns_hasOtherNamed 22 = .ok (.aload_n 1, 1) := by decide +kernel
theorem d_Ns_hasOtherNamed_23 : decode b_Ns_hasOtherNamed 23 = .ok (.if_acmp .ne 32, 3) := by decide +kernel
theorem d_Ns_hasOtherNamed_55 : decode b_Ns_hasOtherNamed 55 = .ok (.iinc 5 1, 3) := by decide +kernel
theorem d_Ns_hasOtherNamed_58 : decode b_Ns_hasOtherNamed 58 = .ok (.goto (-55), 3) := by decide +kernel
theorem d_Ns_hasOtherNamed_61 : decode b_Ns_hasOtherNamed 61 = .ok (.iconst 0, 1) := by decide +kernel
theorem d_Ns_hasOtherNamed_62 : decode b_Ns_hasOtherNamed 62 = .ok (.ireturn, 1) := by decide +kernel
theorem d_Ns_append_0 : decode b_Ns_append 0 = .ok (.aload_n 0, 1) := by decide +kernel
theorem d_Ns_append_1 : decode b_Ns_append 1 = .ok (.getfield 20, 3) := by decide +kernel
theorem d_Ns_append_4 : decode b_Ns_append 4 = .ok (.aload_n 0, 1) := by decide +kernel
theorem d_Ns_append_5 : decode b_Ns_append 5 = .ok (.getfield 11, 3) := by decide +kernel
theorem d_Ns_append_8 : decode b_Ns_append 8 = .ok (.arraylength, 1) := by decide +kernel
theorem d_Ns_append_9 : decode b_Ns_append 9 = .ok (.if_icmp .lt 5, 3) := by decide +kernel
theorem d_Ns_append_14 : decode b_Ns_append 14 = .ok (.aload_n 0, 1) := by decide +kernel
theorem d_Ns_append_15 : decode b_Ns_append 15 = .ok (.getfield 11, 3) := by decide +kernel
theorem d_Ns_append_18 : decode b_Ns_append 18 = .ok (.aload_n 0, 1) := by decide +kernel
theorem d_Ns_append_19 : decode b_Ns_append 19 = .ok (.getfield 20, 3) := by decide +kernel
theorem d_Ns_append_22 : decode b_Ns_append 22 = .ok (.aaload, 1) := by decide +kernel
theorem d_Ns_append_23 : decode b_Ns_append 23 = .ok (.astore_n 1, 1) := by decide +kernel
theorem d_Ns_append_24 : decode b_Ns_append 24 = .ok (.aload_n 1, 1) := by decide +kernel
theorem d_Ns_append_25 : decode b_Ns_append 25 = .ok (.aload_n 0, 1) := by decide +kernel
theorem d_Ns_append_26 : decode b_Ns_append 26 = .ok (.getfield 24, 3) := by decide +kernel
theorem d_Ns_append_29 : decode b_Ns_append 29 = .ok (.putfield 36, 3) := by decide +kernel
theorem d_Ns_append_32 : decode b_Ns_append 32 = .ok (.aload_n 0, 1) := by decide +kernel
theorem d_Ns_append_33 : decode b_Ns_append 33 = .ok (.dup, 1) := by decide +kernel
theorem d_Ns_append_34 : decode b_Ns_append 34 = .ok (.getfield 20, 3) := by decide +kernel
theorem d_Ns_append_37 : decode b_Ns_append 37 = .ok (.iconst 1, 1) := by decide +kernel
theorem d_Ns_append_38 : decode b_Ns_append 38 = .ok (.iadd, 1) := by decide +kernel
theorem d_Ns_append_39 : decode b_Ns_append 39 = .ok (.putfield 20, 3) := by decide +kernel
theorem d_Ns_append_42 : decode b_Ns_append 42 = .ok (.aload_n 0, 1) := by decide +kernel
theorem d_Ns_append_43 : decode b_Ns_append 43 = .ok (.dup, 1) := by decide +kernel
theorem d_Ns_append_44 : decode b_Ns_append 44 = .ok (.getfield 24, 3) := by decide +kernel
theorem d_Ns_append_47 : decode b_Ns_append 47 = .ok (.iconst 1, 1) := by decide +kernel
theorem d_Ns_append_48 : decode b_Ns_append 48 = .ok (.iadd, 1) := by decide +kernel
theorem d_Ns_append_49 : decode b_Ns_append 49 = .ok (.putfield 24, 3) := by decide +kernel
theorem d_Ns_append_52 : decode b_Ns_append 52 = .ok (.aload_n 1, 1) := by decide +kernel
theorem d_Ns_append_53 : decode b_Ns_append 53 = .ok (.areturn, 1) := by decide +kernel
theorem d_No_takeName_0 : decode b_No_takeName 0 = .ok (.aload_n 0, 1) := by decide +kernel
theorem d_No_takeName_1 : decode b_No_takeName 1 = .ok (.lload_n 1, 1) := by decide +kernel
theorem d_No_takeName_2 : decode b_No_takeName 2 = .ok (.putfield 23, 3) := by decide +kernel
theorem d_No_takeName_5 : decode b_No_takeName 5 = .ok (.aload_n 0, 1) := by decide +kernel
theorem d_No_takeName_6 : decode b_No_takeName 6 = .ok (.iconst 0, 1) := by decide +kernel
theorem d_No_takeName_7 : decode b_No_takeName 7 = .ok (.putfield 27, 3) := by decide +kernel
theorem d_No_takeName_10 : decode b_No_takeName 10 = .ok (.iconst 0, 1) := by decide +kernel
theorem d_No_takeName_11 : decode b_No_takeName 11 = .ok (.istore_n 3, 1) := by decide +kernel
theorem d_No_takeName_12 : decode b_No_takeName 12 = .ok (.iload_n 3, 1) := by decide +kernel
theorem d_No_takeName_13 : decode b_No_takeName 13 = .ok (.bipush 64, 2) := by decide +kernel
theorem d_No_takeName_15 : decode b_No_takeName 15 = .ok (.if_icmp .ge 27, 3) := by decide +kernel
theorem d_No_takeName_42 : decode b_No_takeName 42 = .ok (.return_, 1) := by decide +kernel
theorem d_No_takeName_18 : decode b_No_takeName 18 = .ok (.lload_n 1, 1) := by decide +kernel
theorem d_No_takeName_19 : decode b_No_takeName 19 = .ok (.iload_n 3, 1) := by decide +kernel
theorem d_No_takeName_20 : decode b_No_takeName 20 = .ok (.lushr, 1) := by decide +kernel
theorem d_No_takeName_21 : decode b_No_takeName 21 = .ok (.lconst 0, 1) := by decide +kernel
theorem d_No_takeName_22 : decode b_No_takeName 22 = .ok (.lcmp, 1) := by decide +kernel
theorem d_No_takeName_23 : decode b_No_takeName 23 = .ok (.ifCond .eq 13, 3) := by decide +kernel
theorem d_No_takeName_36 : decode b_No_takeName 36 = .ok (.iinc 3 8, 3) := by decide +kernel
theorem d_No_takeName_39 : decode b_No_takeName 39 = .ok (.goto (-27), 3) := by decide +kernel
theorem d_No_takeName_26 : decode b_No_takeName 26 = .ok (.aload_n 0, 1) := by decide +kernel
theorem d_No_takeName_27 : decode b_No_takeName 27 = .ok (.dup, 1) := by decide +kernel
theorem d_No_takeName_28 : decode b_No_takeName 28 = .ok (.getfield 27, 3) := by decide +kernel
theorem d_No_takeName_31 : decode b_No_takeName 31 = .ok (.iconst 1, 1) := by decide +kernel
theorem d_No_takeName_32 : decode b_No_takeName 32 = .ok (.iadd, 1) := by decide +kernel
theorem d_No_takeName_33 : decode b_No_takeName 33 = .ok (.putfield 27, 3) := by decide +kernel
theorem d_No_takeContent_0 : decode b_No_takeContent 0 = .ok (.aload_n 0, 1) := by decide +kernel
theorem d_No_takeContent_1 : decode b_No_takeContent 1 = .ok (.iload_n 1, 1) := by decide +kernel
theorem d_No_takeContent_2 : decode b_No_takeContent 2 = .ok (.putfield 30, 3) := by decide +kernel
theorem d_No_takeContent_5 : decode b_No_takeContent 5 = .ok (.aload_n 0, 1) := by decide +kernel
theorem d_No_takeContent_6 : decode b_No_takeContent 6 = .ok (.iload_n 2, 1) := by decide +kernel
theorem d_No_takeContent_7 : decode b_No_takeContent 7 = .ok (.putfield 33, 3) := by decide +kernel
theorem d_No_takeContent_10 : decode b_No_takeContent 10 = .ok (.aload_n 0, 1) := by decide +kernel
theorem d_No_takeContent_11 : decode b_No_takeContent 11 = .ok (.iconst 0, 1) := by decide +kernel
theorem d_No_takeContent_12 : decode b_No_takeContent 12 = .ok (.putfield 36, 3) := by decide +kernel
theorem d_No_takeContent_15 : decode b_No_takeContent 15 = .ok (.aload_n 0, 1) := by decide +kernel
theorem d_No_takeContent_16 : decode b_No_takeContent 16 = .ok (.iconst 0, 1) := by decide +kernel
theorem d_No_takeContent_17 : decode b_No_takeContent 17 = .ok (.putfield 39, 3) := by decide +kernel
theorem d_No_takeContent_20 : decode b_No_takeContent 20 = .ok (.return_, 1) := by decide +kernel
theorem d_No_become_0 : decode b_No_become 0 = .ok (.aload_n 0, 1) := by decide +kernel
theorem d_No_become_1 : decode b_No_become 1 = .ok (.aload_n 1, 1) := by decide +kernel
theorem d_No_become_2 : decode b_No_become 2 = .ok (.putfield 15, 3) := by decide +kernel
theorem d_No_become_5 : decode b_No_become 5 = .ok (.aload_n 0, 1) := by decide +kernel
theorem d_No_become_6 : decode b_No_become 6 = .ok (.iload_n 2, 1) := by decide +kernel
theorem d_No_become_7 : decode b_No_become 7 = .ok (.putfield 19, 3) := by decide +kernel
theorem d_No_become_10 : decode b_No_become 10 = .ok (.aload_n 0, 1) := by decide +kernel
theorem d_No_become_11 : decode b_No_become 11 = .ok (.lload_n 3, 1) := by decide +kernel
theorem d_No_become_12 : decode b_No_become 12 = .ok (.invokevirtual 48, 3) := by decide +kernel
theorem d_No_become_15 : decode b_No_become 15 = .ok (.aload_n 0, 1) := by decide +kernel
theorem d_No_become_16 : decode b_No_become 16 = .ok (.iconst 0, 1) := by decide +kernel
theorem d_No_become_17 : decode b_No_become 17 = .ok (.iconst 0, 1) := by decide +kernel
theorem d_No_become_18 : decode b_No_become 18 = .ok (.invokevirtual 52, 3) := by decide +kernel
theorem d_No_become_21 : decode b_No_become 21 = .ok (.return_, 1) := by decide +kernel
/-- what a byte of a name may be, as the code asks it -/
def lt3 (c : Int32) : Int32 := if c = 95 then 1 else 0
def lt2 (c : Int32) : Int32 := if c < 48 then lt3 c else if c ≤ 57 then 1 else lt3 c
def letC (c : Int32) : Int32 := if c < 65 then lt2 c else if c ≤ 90 then 1 else lt2 c
/-- byte k of a word -/
def tb (w : Int64) (k : Nat) : Int32 := (w.toUInt64 >>> ((nI (8 * (k + 1)) - 8).toInt64.toUInt64 &&& Int64.toUInt64 63)).toInt64.toInt32 &&& 255
/-- the name that bytes k - 1 to 0 add to a, 0 if one is none of a name's -/
def tl (w : Int64) : Nat → Int64 → Int64
  | 0, a => a
  | k + 1, a => if tb w k = 0 then tl w k a else if letC (tb w k) = 0 then 0 else tl w k (a <<< ((8 : Int32).toInt64 &&& 63) ||| (tb w k).toInt64)
def tlV (w : Int64) : Int64 := tl w 8 0
theorem sh_0 : (56 : Int32) = nI (8 * 8) - 8 := by decide
theorem sh_neg : ∀ k, k < 9 → ((nI (8 * k) - 8 < 0) ↔ k = 0) := by decide
theorem sh_dec : ∀ k, k < 8 → nI (8 * (k + 1)) - 8 + Int32.ofInt (-8) = nI (8 * k) - 8 := by decide

/-- whether size and seed are a content -/
def cntC (sz sd : Int32) : Int32 := if sz < 0 then 0 else if 6000 < sz then 0 else if sd < 0 then 0 else if 255 < sd then 0 else 1

theorem sn_ge : ∀ k, k < 9 → ((64 ≤ (64 : Int32) - nI (8 * k)) ↔ k = 0) := by decide
theorem sn_dec : ∀ k, k < 8 → (64 : Int32) - nI (8 * (k + 1)) + Int32.ofInt 8 = 64 - nI (8 * k) := by decide

set_option maxHeartbeats 4000000 in
set_option maxRecDepth 100000 in
theorem c_Di_isNameByte (l : Launch) (D : va_G) (t : Nat → ClassId) (G : Heap) (ak av : Nat → Nat) (h : hM) (c9 : Int32) : Met l y_Di_isNameByte (.code y_Di_isNameByte b_Di_isNameByte 1 (some .boolean) :: lw_g) { frames := 0, cells := 0, slots := 0, locals := 0 } (hP (kE D t G ak av) D vwCl G h [.int c9]) (hQi D vwCl G (fun r h' => r = letC c9 ∧ h = h')) 0 0 (fun q => G.size ≤ q) := by
  refine Met.ofW (cc := b_Di_isNameByte) (maxL := 1) (ret := (some .boolean)) (by decide) rfl ?_
  intro p e s m args below meth c s₁ Bd hml hv
  obtain ⟨ha, hE, hH⟩ := hv
  have hx := Bd.exec
  have hb := Bd.bytes
  have hr := Bd.returns
  have hts : ∀ w ∈ lw_g, w.before args s = true := fun w hw => atoms_spec (ws := (.code y_Di_isNameByte b_Di_isNameByte 1 (some .boolean) :: lw_g)) Bd.pre w (List.mem_cons_of_mem _ hw)
  have hown : s.vm.findClass R_Di = some m.cls := findClass_of_methodNamed Bd.named
  have hlocks := Bd.notSynchronized
  have hK := hE.1
  have hH0 := hH
  have hLo : hLc G.size [] := hLc_nil
  have hz : s.heap.size ≤ s.heap.size := Nat.le_refl _
  have hkp : kp [] h h := kp_rf
  have hl := lv_entry [.int c9] (n := 1) (Nat.le_of_ble_eq_true rfl)
  rw [show entryFrame m args 1 = F0 m 0 ((lg_sl [.int c9] ++ List.replicate (1 - (lg_sl [.int c9]).length) Slot.unset).toArray) [] from (by rw [ha]; exact lg_entry_eq m [.int c9] 1)]
  generalize (lg_sl [.int c9] ++ List.replicate (1 - (lg_sl [.int c9]).length) Slot.unset).toArray = ls at hl ⊢
  have hl : lv_has ls 1 [(0, .int c9)] := hl
  refine lv_iload_n hx hb d_Di_isNameByte_0 rfl (lv_at hl 0 rfl) ?_
  refine lv_bipush (v := 65) hx hb d_Di_isNameByte_1 (by decide) ?_
  refine lv_icmp_lt (tgt := 12) hx hb d_Di_isNameByte_3 (by decide) (fun hc1 => ?_) (fun hc1 => ?_)
  · skip
    refine lv_iload_n hx hb d_Di_isNameByte_12 rfl (lv_at hl 0 rfl) ?_
    refine lv_bipush (v := 48) hx hb d_Di_isNameByte_13 (by decide) ?_
    refine lv_icmp_lt (tgt := 24) hx hb d_Di_isNameByte_15 (by decide) (fun hc2 => ?_) (fun hc2 => ?_)
    · skip
      refine lv_iload_n hx hb d_Di_isNameByte_24 rfl (lv_at hl 0 rfl) ?_
      refine lv_bipush (v := 95) hx hb d_Di_isNameByte_25 (by decide) ?_
      refine lv_icmp_ne (tgt := 34) hx hb d_Di_isNameByte_27 (by decide) (fun hc3 => ?_) (fun hc3 => ?_)
      · skip
        refine lv_iconst (v := 0) hx hb d_Di_isNameByte_34 (by decide) ?_
        exact W.zret (v := 0) hx hb hr (by decide) (fun t9 ht hW => ⟨0, h, rfl, ⟨by simp [letC, lt2, lt3, hc1, hc2, hc3], rfl⟩, by rw [ht]; exact hH, by rw [ht]; exact hz⟩) hLo d_Di_isNameByte_35
      · skip
        refine lv_iconst (v := 1) hx hb d_Di_isNameByte_30 (by decide) ?_
        refine lv_goto (tgt := 35) hx hb d_Di_isNameByte_31 (by decide) ?_
        exact W.zret (v := 1) hx hb hr (by decide) (fun t9 ht hW => ⟨1, h, rfl, ⟨by simp [letC, lt2, lt3, hc1, hc2, hc3], rfl⟩, by rw [ht]; exact hH, by rw [ht]; exact hz⟩) hLo d_Di_isNameByte_35
    · skip
      refine lv_iload_n hx hb d_Di_isNameByte_18 rfl (lv_at hl 0 rfl) ?_
      refine lv_bipush (v := 57) hx hb d_Di_isNameByte_19 (by decide) ?_
      refine lv_icmp_le (tgt := 30) hx hb d_Di_isNameByte_21 (by decide) (fun hc4 => ?_) (fun hc4 => ?_)
      · skip
        refine lv_iconst (v := 1) hx hb d_Di_isNameByte_30 (by decide) ?_
        refine lv_goto (tgt := 35) hx hb d_Di_isNameByte_31 (by decide) ?_
        exact W.zret (v := 1) hx hb hr (by decide) (fun t9 ht hW => ⟨1, h, rfl, ⟨by simp [letC, lt2, lt3, hc1, hc2, hc4], rfl⟩, by rw [ht]; exact hH, by rw [ht]; exact hz⟩) hLo d_Di_isNameByte_35
      · skip
        refine lv_iload_n hx hb d_Di_isNameByte_24 rfl (lv_at hl 0 rfl) ?_
        refine lv_bipush (v := 95) hx hb d_Di_isNameByte_25 (by decide) ?_
        refine lv_icmp_ne (tgt := 34) hx hb d_Di_isNameByte_27 (by decide) (fun hc5 => ?_) (fun hc5 => ?_)
        · skip
          refine lv_iconst (v := 0) hx hb d_Di_isNameByte_34 (by decide) ?_
          exact W.zret (v := 0) hx hb hr (by decide) (fun t9 ht hW => ⟨0, h, rfl, ⟨by simp [letC, lt2, lt3, hc1, hc2, hc4, hc5], rfl⟩, by rw [ht]; exact hH, by rw [ht]; exact hz⟩) hLo d_Di_isNameByte_35
        · skip
          refine lv_iconst (v := 1) hx hb d_Di_isNameByte_30 (by decide) ?_
          refine lv_goto (tgt := 35) hx hb d_Di_isNameByte_31 (by decide) ?_
          exact W.zret (v := 1) hx hb hr (by decide) (fun t9 ht hW => ⟨1, h, rfl, ⟨by simp [letC, lt2, lt3, hc1, hc2, hc4, hc5], rfl⟩, by rw [ht]; exact hH, by rw [ht]; exact hz⟩) hLo d_Di_isNameByte_35
  · skip
    refine lv_iload_n hx hb d_Di_isNameByte_6 rfl (lv_at hl 0 rfl) ?_
    refine lv_bipush (v := 90) hx hb d_Di_isNameByte_7 (by decide) ?_
    refine lv_icmp_le (tgt := 30) hx hb d_Di_isNameByte_9 (by decide) (fun hc6 => ?_) (fun hc6 => ?_)
    · skip
      refine lv_iconst (v := 1) hx hb d_Di_isNameByte_30 (by decide) ?_
      refine lv_goto (tgt := 35) hx hb d_Di_isNameByte_31 (by decide) ?_
      exact W.zret (v := 1) hx hb hr (by decide) (fun t9 ht hW => ⟨1, h, rfl, ⟨by simp [letC, lt2, lt3, hc1, hc6], rfl⟩, by rw [ht]; exact hH, by rw [ht]; exact hz⟩) hLo d_Di_isNameByte_35
    · skip
      refine lv_iload_n hx hb d_Di_isNameByte_12 rfl (lv_at hl 0 rfl) ?_
      refine lv_bipush (v := 48) hx hb d_Di_isNameByte_13 (by decide) ?_
      refine lv_icmp_lt (tgt := 24) hx hb d_Di_isNameByte_15 (by decide) (fun hc7 => ?_) (fun hc7 => ?_)
      · skip
        refine lv_iload_n hx hb d_Di_isNameByte_24 rfl (lv_at hl 0 rfl) ?_
        refine lv_bipush (v := 95) hx hb d_Di_isNameByte_25 (by decide) ?_
        refine lv_icmp_ne (tgt := 34) hx hb d_Di_isNameByte_27 (by decide) (fun hc8 => ?_) (fun hc8 => ?_)
        · skip
          refine lv_iconst (v := 0) hx hb d_Di_isNameByte_34 (by decide) ?_
          exact W.zret (v := 0) hx hb hr (by decide) (fun t9 ht hW => ⟨0, h, rfl, ⟨by simp [letC, lt2, lt3, hc1, hc6, hc7, hc8], rfl⟩, by rw [ht]; exact hH, by rw [ht]; exact hz⟩) hLo d_Di_isNameByte_35
        · skip
          refine lv_iconst (v := 1) hx hb d_Di_isNameByte_30 (by decide) ?_
          refine lv_goto (tgt := 35) hx hb d_Di_isNameByte_31 (by decide) ?_
          exact W.zret (v := 1) hx hb hr (by decide) (fun t9 ht hW => ⟨1, h, rfl, ⟨by simp [letC, lt2, lt3, hc1, hc6, hc7, hc8], rfl⟩, by rw [ht]; exact hH, by rw [ht]; exact hz⟩) hLo d_Di_isNameByte_35
      · skip
        refine lv_iload_n hx hb d_Di_isNameByte_18 rfl (lv_at hl 0 rfl) ?_
        refine lv_bipush (v := 57) hx hb d_Di_isNameByte_19 (by decide) ?_
        refine lv_icmp_le (tgt := 30) hx hb d_Di_isNameByte_21 (by decide) (fun hc9 => ?_) (fun hc9 => ?_)
        · skip
          refine lv_iconst (v := 1) hx hb d_Di_isNameByte_30 (by decide) ?_
          refine lv_goto (tgt := 35) hx hb d_Di_isNameByte_31 (by decide) ?_
          exact W.zret (v := 1) hx hb hr (by decide) (fun t9 ht hW => ⟨1, h, rfl, ⟨by simp [letC, lt2, lt3, hc1, hc6, hc7, hc9], rfl⟩, by rw [ht]; exact hH, by rw [ht]; exact hz⟩) hLo d_Di_isNameByte_35
        · skip
          refine lv_iload_n hx hb d_Di_isNameByte_24 rfl (lv_at hl 0 rfl) ?_
          refine lv_bipush (v := 95) hx hb d_Di_isNameByte_25 (by decide) ?_
          refine lv_icmp_ne (tgt := 34) hx hb d_Di_isNameByte_27 (by decide) (fun hc10 => ?_) (fun hc10 => ?_)
          · skip
            refine lv_iconst (v := 0) hx hb d_Di_isNameByte_34 (by decide) ?_
            exact W.zret (v := 0) hx hb hr (by decide) (fun t9 ht hW => ⟨0, h, rfl, ⟨by simp [letC, lt2, lt3, hc1, hc6, hc7, hc9, hc10], rfl⟩, by rw [ht]; exact hH, by rw [ht]; exact hz⟩) hLo d_Di_isNameByte_35
          · skip
            refine lv_iconst (v := 1) hx hb d_Di_isNameByte_30 (by decide) ?_
            refine lv_goto (tgt := 35) hx hb d_Di_isNameByte_31 (by decide) ?_
            exact W.zret (v := 1) hx hb hr (by decide) (fun t9 ht hW => ⟨1, h, rfl, ⟨by simp [letC, lt2, lt3, hc1, hc6, hc7, hc9, hc10], rfl⟩, by rw [ht]; exact hH, by rw [ht]; exact hz⟩) hLo d_Di_isNameByte_35

set_option maxHeartbeats 4000000 in
set_option maxRecDepth 100000 in
theorem c_Di_nameIn (l : Launch) (D : va_G) (t : Nat → ClassId) (G : Heap) (ak av : Nat → Nat) (h : hM) (w : Int64) : Met l y_Di_nameIn (.code y_Di_nameIn b_Di_nameIn 6 (some .long) :: lw_g) { frames := 1, cells := 0, slots := 0, locals := 20 } (hP (kE D t G ak av) D vwCl G h [.long w]) (hQl D vwCl G (fun r h' => r = tlV w ∧ h = h')) 0 0 (fun q => G.size ≤ q) := by
  refine Met.ofW (cc := b_Di_nameIn) (maxL := 6) (ret := (some .long)) (by decide) rfl ?_
  intro p e s m args below meth c s₁ Bd hml hv
  obtain ⟨ha, hE, hH⟩ := hv
  have hx := Bd.exec
  have hb := Bd.bytes
  have hr := Bd.returns
  have hts : ∀ w ∈ lw_g, w.before args s = true := fun w hw => atoms_spec (ws := (.code y_Di_nameIn b_Di_nameIn 6 (some .long) :: lw_g)) Bd.pre w (List.mem_cons_of_mem _ hw)
  have hown : s.vm.findClass R_Di = some m.cls := findClass_of_methodNamed Bd.named
  have hlocks := Bd.notSynchronized
  have hK := hE.1
  have hH0 := hH
  have hLo : hLc G.size [] := hLc_nil
  have hz : s.heap.size ≤ s.heap.size := Nat.le_refl _
  have hkp : kp [] h h := kp_rf
  have hl := lv_entry [.long w] (n := 6) (Nat.le_of_ble_eq_true rfl)
  rw [show entryFrame m args 6 = F0 m 0 ((lg_sl [.long w] ++ List.replicate (6 - (lg_sl [.long w]).length) Slot.unset).toArray) [] from (by rw [ha]; exact lg_entry_eq m [.long w] 6)]
  generalize (lg_sl [.long w] ++ List.replicate (6 - (lg_sl [.long w]).length) Slot.unset).toArray = ls at hl ⊢
  have hl : lv_has ls 6 [(0, .long w)] := hl
  refine lv_lconst (v := 0) hx hb d_Di_nameIn_0 (by decide) ?_
  refine lv_lstore_n (lv' := [(2, .long 0), (0, .long w)]) hx hb d_Di_nameIn_1 rfl hl (by decide) rfl (fun ls hl => ?_)
  refine lv_bipush (v := 56) hx hb d_Di_nameIn_2 (by decide) ?_
  refine lv_topi (fun v1 e2 => ?_)
  obtain rfl : v1 = nI (8 * 8) - 8 := e2.trans (sh_0)
  refine lv_istore (lv' := [(4, .int (nI (8 * 8) - 8)), (2, .long 0), (0, .long w)]) hx hb d_Di_nameIn_4 hl (by decide) rfl (fun ls hl => ?_)
  refine hm_loop (fun k ls H locs hh => ∃ (k9 : Nat) (acc : Int64), k = k9 ∧ lv_has ls 6 [(4, .int (nI (8 * k9) - 8)), (0, .long w), (2, .long acc)] ∧ hm D vwCl G hh H ∧ s.heap.size ≤ H.size ∧ hLc G.size locs ∧ kp [] h hh ∧ (tl w k9 acc = tlV w) ∧ (k9 ≤ 8) ∧ (h = hh)) ?_ (hh := h) ⟨8, 0, rfl, (lv_sub hl [0, 2, 1] rfl), hH, hz, hLo, hkp, rfl, by omega, rfl⟩
  rintro k ls H locs hh ⟨k9, acc, hk, hl, hH, hz, hLo, hkp, htl, hk9, hhh⟩ ih
  rcases Nat.eq_zero_or_pos k9 with rfl | hpos
  · skip
    refine lv_iload hx hb d_Di_nameIn_6 (lv_at hl 0 rfl) ?_
    refine lv_if_lt (tgt := 57) hx hb d_Di_nameIn_8 (by decide) (fun hc3 => ?_) (fun hc3 => absurd ((sh_neg 0 (by decide)).mpr rfl) hc3)
    refine lv_lload_n hx hb d_Di_nameIn_57 rfl (lv_at hl 2 rfl) ?_
    exact W.lret (v := acc) hx hb hr (fun t9 ht hW => ⟨acc, hh, rfl, ⟨htl, hhh⟩, by rw [ht]; exact hH, by rw [ht]; exact hz⟩) hLo d_Di_nameIn_58
  · skip
    obtain ⟨j, rfl⟩ : ∃ j, k9 = j + 1 := ⟨k9 - 1, by omega⟩
    refine lv_iload hx hb d_Di_nameIn_6 (lv_at hl 0 rfl) ?_
    refine lv_if_lt (tgt := 57) hx hb d_Di_nameIn_8 (by decide) (fun hc4 => absurd hc4 (mt (sh_neg (j + 1) (by omega)).mp (by omega))) (fun hc4 => ?_)
    refine lv_lload_n hx hb d_Di_nameIn_11 rfl (lv_at hl 1 rfl) ?_
    refine lv_iload hx hb d_Di_nameIn_12 (lv_at hl 0 rfl) ?_
    refine lv_lushr (v := (w.toUInt64 >>> ((nI (8 * (j + 1)) - 8).toInt64.toUInt64 &&& Int64.toUInt64 63)).toInt64) hx hb d_Di_nameIn_14 rfl ?_
    refine lv_l2i (v := ((w.toUInt64 >>> ((nI (8 * (j + 1)) - 8).toInt64.toUInt64 &&& Int64.toUInt64 63)).toInt64).toInt32) hx hb d_Di_nameIn_15 rfl ?_
    refine lv_sipush (v := 255) hx hb d_Di_nameIn_16 (by decide) ?_
    refine lv_iand hx hb d_Di_nameIn_19 ?_
    refine W.eq (g2 := F0 m 20 ls [.int (tb w j)]) rfl ?_
    refine lv_istore (lv' := [(5, .int (tb w j)), (4, .int (nI (8 * (j + 1)) - 8)), (0, .long w), (2, .long acc)]) hx hb d_Di_nameIn_20 hl (by decide) rfl (fun ls hl => ?_)
    refine lv_iload hx hb d_Di_nameIn_22 (lv_at hl 0 rfl) ?_
    refine lv_if_eq (tgt := 37) hx hb d_Di_nameIn_24 (by decide) (fun hc5 => ?_) (fun hc5 => ?_)
    · skip
      refine lv_iload hx hb d_Di_nameIn_37 (lv_at hl 0 rfl) ?_
      refine lv_if_eq (tgt := 51) hx hb d_Di_nameIn_39 (by decide) (fun hc6 => ?_) (fun hc6 => absurd hc5 hc6)
      refine lv_iinc (v := nI (8 * j) - 8) (lv' := [(4, .int (nI (8 * j) - 8)), (5, .int (tb w j)), (0, .long w), (2, .long acc)]) hx hb d_Di_nameIn_51 hl (k := 1) rfl (sh_dec j (by omega)) (by decide) rfl (fun ls hl => ?_)
      refine lv_goto (tgt := 6) hx hb d_Di_nameIn_54 (by decide) ?_
      exact ih (j) ls _ locs _ (by rw [hk]; omega) ⟨j, acc, rfl, (lv_sub hl [0, 2, 3] rfl), hH, hz, hLo, hkp, by rw [← htl, tl, if_pos hc5], by omega, hhh⟩
    · skip
      refine lv_iload hx hb d_Di_nameIn_27 (lv_at hl 0 rfl) ?_
      refine hm_calli (va_runS (As := [.int (tb w j)]) (rest := []) ⟨hx, hb, hml, hown, hts⟩ (c_Di_isNameByte l D t G ak av hh (tb w j)) ⟨cw9B 1 hts mw_270 mw_271 mw_121 rfl rfl (by decide +kernel) ⟨Nat.le_of_ble_eq_true rfl, Nat.le_of_ble_eq_true rfl⟩, hts _ mw_272⟩ (hP_S kE_ok hE hH) rfl rfl hl.1 rfl (lv_room (Nat.le_of_ble_eq_true rfl)) d_Di_nameIn_29 ⟨Nat.le_of_ble_eq_true rfl, Nat.le_of_ble_eq_true rfl⟩) hLo (fun r7 h8 H9 locs hp11 hH z10 hLo => ?_)
      have hz : s.heap.size ≤ H9.size := Nat.le_trans hz z10
      obtain ⟨rfl, rfl⟩ := hp11
      refine lv_if_ne (tgt := 37) hx hb d_Di_nameIn_32 (by decide) (fun hc12 => ?_) (fun hc12 => ?_)
      · skip
        refine lv_iload hx hb d_Di_nameIn_37 (lv_at hl 0 rfl) ?_
        refine lv_if_eq (tgt := 51) hx hb d_Di_nameIn_39 (by decide) (fun hc13 => absurd hc13 hc5) (fun hc13 => ?_)
        refine lv_lload_n hx hb d_Di_nameIn_42 rfl (lv_at hl 3 rfl) ?_
        refine lv_bipush (v := 8) hx hb d_Di_nameIn_43 (by decide) ?_
        refine lv_lshl (v := acc <<< ((8 : Int32).toInt64 &&& 63)) hx hb d_Di_nameIn_45 rfl ?_
        refine lv_iload hx hb d_Di_nameIn_46 (lv_at hl 0 rfl) ?_
        refine lv_i2l (v := (tb w j).toInt64) hx hb d_Di_nameIn_48 rfl ?_
        refine lv_lor hx hb d_Di_nameIn_49 ?_
        refine lv_lstore_n (lv' := [(2, .long ((acc <<< ((8 : Int32).toInt64 &&& 63)) ||| ((tb w j).toInt64))), (5, .int (tb w j)), (4, .int (nI (8 * (j + 1)) - 8)), (0, .long w)]) hx hb d_Di_nameIn_50 rfl hl (by decide) rfl (fun ls hl => ?_)
        refine lv_iinc (v := nI (8 * j) - 8) (lv' := [(4, .int (nI (8 * j) - 8)), (2, .long ((acc <<< ((8 : Int32).toInt64 &&& 63)) ||| ((tb w j).toInt64))), (5, .int (tb w j)), (0, .long w)]) hx hb d_Di_nameIn_51 hl (k := 2) rfl (sh_dec j (by omega)) (by decide) rfl (fun ls hl => ?_)
        refine lv_goto (tgt := 6) hx hb d_Di_nameIn_54 (by decide) ?_
        exact ih (j) ls _ locs _ (by rw [hk]; omega) ⟨j, ((acc <<< ((8 : Int32).toInt64 &&& 63)) ||| ((tb w j).toInt64)), rfl, (lv_sub hl [0, 3, 1] rfl), hH, hz, hLo, hkp, by rw [← htl, tl, if_neg hc5, if_neg hc12], by omega, hhh⟩
      · skip
        refine lv_lconst (v := 0) hx hb d_Di_nameIn_35 (by decide) ?_
        exact W.lret (v := 0) hx hb hr (fun t9 ht hW => ⟨0, hh, rfl, ⟨by rw [← htl, tl, if_neg hc5, if_pos hc12], hhh⟩, by rw [ht]; exact hH, by rw [ht]; exact hz⟩) hLo d_Di_nameIn_36

set_option maxHeartbeats 4000000 in
set_option maxRecDepth 100000 in
theorem c_Di_isContent (l : Launch) (D : va_G) (t : Nat → ClassId) (G : Heap) (ak av : Nat → Nat) (h : hM) (sz sd : Int32) : Met l y_Di_isContent (.code y_Di_isContent b_Di_isContent 2 (some .boolean) :: lw_g) { frames := 0, cells := 0, slots := 0, locals := 0 } (hP (kE D t G ak av) D vwCl G h [.int sz, .int sd]) (hQi D vwCl G (fun r h' => r = cntC sz sd ∧ h = h')) 0 0 (fun q => G.size ≤ q) := by
  refine Met.ofW (cc := b_Di_isContent) (maxL := 2) (ret := (some .boolean)) (by decide) rfl ?_
  intro p e s m args below meth c s₁ Bd hml hv
  obtain ⟨ha, hE, hH⟩ := hv
  have hx := Bd.exec
  have hb := Bd.bytes
  have hr := Bd.returns
  have hts : ∀ w ∈ lw_g, w.before args s = true := fun w hw => atoms_spec (ws := (.code y_Di_isContent b_Di_isContent 2 (some .boolean) :: lw_g)) Bd.pre w (List.mem_cons_of_mem _ hw)
  have hown : s.vm.findClass R_Di = some m.cls := findClass_of_methodNamed Bd.named
  have hlocks := Bd.notSynchronized
  have hK := hE.1
  have hH0 := hH
  have hLo : hLc G.size [] := hLc_nil
  have hz : s.heap.size ≤ s.heap.size := Nat.le_refl _
  have hkp : kp [] h h := kp_rf
  have hl := lv_entry [.int sz, .int sd] (n := 2) (Nat.le_of_ble_eq_true rfl)
  rw [show entryFrame m args 2 = F0 m 0 ((lg_sl [.int sz, .int sd] ++ List.replicate (2 - (lg_sl [.int sz, .int sd]).length) Slot.unset).toArray) [] from (by rw [ha]; exact lg_entry_eq m [.int sz, .int sd] 2)]
  generalize (lg_sl [.int sz, .int sd] ++ List.replicate (2 - (lg_sl [.int sz, .int sd]).length) Slot.unset).toArray = ls at hl ⊢
  have hl : lv_has ls 2 [(0, .int sz), (1, .int sd)] := hl
  refine lv_iload_n hx hb d_Di_isContent_0 rfl (lv_at hl 0 rfl) ?_
  refine lv_if_lt (tgt := 26) hx hb d_Di_isContent_1 (by decide) (fun hc1 => ?_) (fun hc1 => ?_)
  · skip
    refine lv_iconst (v := 0) hx hb d_Di_isContent_26 (by decide) ?_
    exact W.zret (v := 0) hx hb hr (by decide) (fun t9 ht hW => ⟨0, h, rfl, ⟨by simp [cntC, hc1], rfl⟩, by rw [ht]; exact hH, by rw [ht]; exact hz⟩) hLo d_Di_isContent_27
  · skip
    refine lv_iload_n hx hb d_Di_isContent_4 rfl (lv_at hl 0 rfl) ?_
    refine lv_sipush (v := 6000) hx hb d_Di_isContent_5 (by decide) ?_
    refine lv_icmp_gt (tgt := 26) hx hb d_Di_isContent_8 (by decide) (fun hc2 => ?_) (fun hc2 => ?_)
    · skip
      refine lv_iconst (v := 0) hx hb d_Di_isContent_26 (by decide) ?_
      exact W.zret (v := 0) hx hb hr (by decide) (fun t9 ht hW => ⟨0, h, rfl, ⟨by simp [cntC, hc1, hc2], rfl⟩, by rw [ht]; exact hH, by rw [ht]; exact hz⟩) hLo d_Di_isContent_27
    · skip
      refine lv_iload_n hx hb d_Di_isContent_11 rfl (lv_at hl 1 rfl) ?_
      refine lv_if_lt (tgt := 26) hx hb d_Di_isContent_12 (by decide) (fun hc3 => ?_) (fun hc3 => ?_)
      · skip
        refine lv_iconst (v := 0) hx hb d_Di_isContent_26 (by decide) ?_
        exact W.zret (v := 0) hx hb hr (by decide) (fun t9 ht hW => ⟨0, h, rfl, ⟨by simp [cntC, hc1, hc2, hc3], rfl⟩, by rw [ht]; exact hH, by rw [ht]; exact hz⟩) hLo d_Di_isContent_27
      · skip
        refine lv_iload_n hx hb d_Di_isContent_15 rfl (lv_at hl 1 rfl) ?_
        refine lv_sipush (v := 255) hx hb d_Di_isContent_16 (by decide) ?_
        refine lv_icmp_gt (tgt := 26) hx hb d_Di_isContent_19 (by decide) (fun hc4 => ?_) (fun hc4 => ?_)
        · skip
          refine lv_iconst (v := 0) hx hb d_Di_isContent_26 (by decide) ?_
          exact W.zret (v := 0) hx hb hr (by decide) (fun t9 ht hW => ⟨0, h, rfl, ⟨by simp [cntC, hc1, hc2, hc3, hc4], rfl⟩, by rw [ht]; exact hH, by rw [ht]; exact hz⟩) hLo d_Di_isContent_27
        · skip
          refine lv_iconst (v := 1) hx hb d_Di_isContent_22 (by decide) ?_
          refine lv_goto (tgt := 27) hx hb d_Di_isContent_23 (by decide) ?_
          exact W.zret (v := 1) hx hb hr (by decide) (fun t9 ht hW => ⟨1, h, rfl, ⟨by simp [cntC, hc1, hc2, hc3, hc4], rfl⟩, by rw [ht]; exact hH, by rw [ht]; exact hz⟩) hLo d_Di_isContent_27

set_option maxHeartbeats 4000000 in
set_option maxRecDepth 100000 in
theorem c_Nodes_nodeOf (l : Launch) (D : va_G) (t : Nat → ClassId) (G : Heap) (ak av : Nat → Nat) (h : hM) (ns sl od rt : Nat) (fs : Nat → Option Nat) (sc np nu : Int32) (f_ns : h ns = some (.inr (2, [.ref sl, .ref od, .int 1, .int 1]))) (f_sl : h sl = some (.inl ((t 4), 30, .inr (.inr (.inr (.inr fs)))))) (f_rt : h rt = some (.inr (1, [.int 0, .null, .int 1, .long 0, .int 0, .int 0, .int 0, .int 0, .int 0, .int sc, .int np]))) (hf0 : fs 0 = some rt) : Met l y_Ns_nodeOf (.code y_Ns_nodeOf b_Ns_nodeOf 3 (some (.object "WriteOnceDisc$Node")) :: lw_g) { frames := 0, cells := 0, slots := 0, locals := 0 } (hP (kE D t G ak av) D vwCl G h [.ref ns, .int nu]) (hQr D vwCl G (fun r h' => r = (if nu = 0 then some rt else none) ∧ h = h')) 0 0 (fun q => G.size ≤ q) := by
  refine Met.ofW (cc := b_Ns_nodeOf) (maxL := 3) (ret := (some (.object "WriteOnceDisc$Node"))) (by decide) rfl ?_
  intro p e s m args below meth c s₁ Bd hml hv
  obtain ⟨ha, hE, hH⟩ := hv
  have hx := Bd.exec
  have hb := Bd.bytes
  have hr := Bd.returns
  have hts : ∀ w ∈ lw_g, w.before args s = true := fun w hw => atoms_spec (ws := (.code y_Ns_nodeOf b_Ns_nodeOf 3 (some (.object "WriteOnceDisc$Node")) :: lw_g)) Bd.pre w (List.mem_cons_of_mem _ hw)
  have hown : s.vm.findClass R_Ns = some m.cls := findClass_of_methodNamed Bd.named
  have hlocks := Bd.notSynchronized
  have hK := hE.1
  have hH0 := hH
  have hLo : hLc G.size [] := hLc_nil
  have hz : s.heap.size ≤ s.heap.size := Nat.le_refl _
  have hkp : kp [] h h := kp_rf
  have hl := lv_entry [.ref ns, .int nu] (n := 3) (Nat.le_of_ble_eq_true rfl)
  rw [show entryFrame m args 3 = F0 m 0 ((lg_sl [.ref ns, .int nu] ++ List.replicate (3 - (lg_sl [.ref ns, .int nu]).length) Slot.unset).toArray) [] from (by rw [ha]; exact lg_entry_eq m [.ref ns, .int nu] 3)]
  generalize (lg_sl [.ref ns, .int nu] ++ List.replicate (3 - (lg_sl [.ref ns, .int nu]).length) Slot.unset).toArray = ls at hl ⊢
  have hl : lv_has ls 3 [(0, .ref ns), (1, .int nu)] := hl
  refine lv_iconst (v := 0) hx hb d_Ns_nodeOf_0 (by decide) ?_
  refine lv_istore_n (lv' := [(2, .int 0), (0, .ref ns), (1, .int nu)]) hx hb d_Ns_nodeOf_1 rfl hl (by decide) rfl (fun ls hl => ?_)
  refine lv_iload_n hx hb d_Ns_nodeOf_2 rfl (lv_at hl 0 rfl) ?_
  refine lv_aload_n hx hb d_Ns_nodeOf_3 rfl (lv_at hl 1 rfl) ?_
  refine hm_get (ci := 2) (v := .int 1) (C := R_Ns) (T := F_Ns) (N := 4) hx hb hts ig_Ns hown hK hH f_ns rfl 2 (by decide) (hts _ mw_37) (fun _ h9 => h9) rfl d_Ns_nodeOf_4 ?_
  refine lv_icmp_ge (tgt := 36) hx hb d_Ns_nodeOf_7 (by decide) (fun hc1 => absurd hc1 (by decide)) (fun hc1 => ?_)
  refine lv_aload_n hx hb d_Ns_nodeOf_10 rfl (lv_at hl 1 rfl) ?_
  refine hm_get (ci := 2) (v := .ref sl) (C := R_Ns) (T := F_Ns) (N := 4) hx hb hts ig_Ns hown hK hH f_ns rfl 0 (by decide) (hts _ mw_35) (fun _ h9 => h9) rfl d_Ns_nodeOf_11 ?_
  refine lv_iload_n hx hb d_Ns_nodeOf_14 rfl (lv_at hl 0 rfl) ?_
  refine hj_aald (v := .ref rt) hx hb hK hH 4 f_sl (C := R_No) rfl 0 (by decide) (by decide) (by decide) (by rw [hf0]; rfl) d_Ns_nodeOf_15 ?_
  refine hm_get (ci := 1) (v := .int 0) (C := R_No) (T := F_No) (N := 11) hx hb hts ig_No hown hK hH f_rt rfl 0 (by decide) (hts _ mw_273) (fun _ h9 => h9) rfl d_Ns_nodeOf_16 ?_
  refine lv_iload_n hx hb d_Ns_nodeOf_19 rfl (lv_at hl 2 rfl) ?_
  refine lv_icmp_ne (tgt := 30) hx hb d_Ns_nodeOf_20 (by decide) (fun hc2 => ?_) (fun hc2 => ?_)
  · skip
    refine lv_iinc (v := 0 + 1) (lv' := [(2, .int (0 + 1)), (0, .ref ns), (1, .int nu)]) hx hb d_Ns_nodeOf_30 hl (k := 0) rfl (by rfl) (by decide) rfl (fun ls hl => ?_)
    refine lv_goto (tgt := 2) hx hb d_Ns_nodeOf_33 (by decide) ?_
    refine lv_iload_n hx hb d_Ns_nodeOf_2 rfl (lv_at hl 0 rfl) ?_
    refine lv_aload_n hx hb d_Ns_nodeOf_3 rfl (lv_at hl 1 rfl) ?_
    refine hm_get (ci := 2) (v := .int 1) (C := R_Ns) (T := F_Ns) (N := 4) hx hb hts ig_Ns hown hK hH f_ns rfl 2 (by decide) (hts _ mw_37) (fun _ h9 => h9) rfl d_Ns_nodeOf_4 ?_
    refine lv_icmp_ge (tgt := 36) hx hb d_Ns_nodeOf_7 (by decide) (fun hc3 => ?_) (fun hc3 => absurd (by decide) hc3)
    refine lv_null hx hb d_Ns_nodeOf_36 ?_
    exact W.aret (v := va_rf (none)) hx hb hr (Or.inl ⟨_, rfl⟩) (va_rf_or _) (fun t9 ht hW => ⟨none, h, rfl, ⟨(if_neg (fun q => hc2 q.symm)).symm, rfl⟩, by rw [ht]; exact hH, by rw [ht]; exact hz⟩) hLo d_Ns_nodeOf_37
  · skip
    refine lv_aload_n hx hb d_Ns_nodeOf_23 rfl (lv_at hl 1 rfl) ?_
    refine hm_get (ci := 2) (v := .ref sl) (C := R_Ns) (T := F_Ns) (N := 4) hx hb hts ig_Ns hown hK hH f_ns rfl 0 (by decide) (hts _ mw_35) (fun _ h9 => h9) rfl d_Ns_nodeOf_24 ?_
    refine lv_iload_n hx hb d_Ns_nodeOf_27 rfl (lv_at hl 0 rfl) ?_
    refine hj_aald (v := .ref rt) hx hb hK hH 4 f_sl (C := R_No) rfl 0 (by decide) (by decide) (by decide) (by rw [hf0]; rfl) d_Ns_nodeOf_28 ?_
    exact W.aret (v := va_rf (some rt)) hx hb hr (Or.inl ⟨_, rfl⟩) (va_rf_or _) (fun t9 ht hW => ⟨some rt, h, rfl, ⟨(if_pos hc2.symm).symm, rfl⟩, by rw [ht]; exact hH, by rw [ht]; exact hz⟩) hLo d_Ns_nodeOf_29

set_option maxHeartbeats 4000000 in
set_option maxRecDepth 100000 in
theorem c_Nodes_dirOf (l : Launch) (D : va_G) (t : Nat → ClassId) (G : Heap) (ak av : Nat → Nat) (h : hM) (ns sl od rt : Nat) (fs : Nat → Option Nat) (sc np nu : Int32) (f_ns : h ns = some (.inr (2, [.ref sl, .ref od, .int 1, .int 1]))) (f_sl : h sl = some (.inl ((t 4), 30, .inr (.inr (.inr (.inr fs)))))) (f_rt : h rt = some (.inr (1, [.int 0, .null, .int 1, .long 0, .int 0, .int 0, .int 0, .int 0, .int 0, .int sc, .int np]))) (hf0 : fs 0 = some rt) : Met l y_Ns_directoryOf (.code y_Ns_directoryOf b_Ns_directoryOf 3 (some (.object "WriteOnceDisc$Node")) :: lw_g) { frames := 1, cells := 0, slots := 0, locals := 22 } (hP (kE D t G ak av) D vwCl G h [.ref ns, .int nu]) (hQr D vwCl G (fun r h' => r = (if nu = 0 then some rt else none) ∧ h = h')) 0 0 (fun q => G.size ≤ q) := by
  refine Met.ofW (cc := b_Ns_directoryOf) (maxL := 3) (ret := (some (.object "WriteOnceDisc$Node"))) (by decide) rfl ?_
  intro p e s m args below meth c s₁ Bd hml hv
  obtain ⟨ha, hE, hH⟩ := hv
  have hx := Bd.exec
  have hb := Bd.bytes
  have hr := Bd.returns
  have hts : ∀ w ∈ lw_g, w.before args s = true := fun w hw => atoms_spec (ws := (.code y_Ns_directoryOf b_Ns_directoryOf 3 (some (.object "WriteOnceDisc$Node")) :: lw_g)) Bd.pre w (List.mem_cons_of_mem _ hw)
  have hown : s.vm.findClass R_Ns = some m.cls := findClass_of_methodNamed Bd.named
  have hlocks := Bd.notSynchronized
  have hK := hE.1
  have hH0 := hH
  have hLo : hLc G.size [] := hLc_nil
  have hz : s.heap.size ≤ s.heap.size := Nat.le_refl _
  have hkp : kp [] h h := kp_rf
  have hl := lv_entry [.ref ns, .int nu] (n := 3) (Nat.le_of_ble_eq_true rfl)
  rw [show entryFrame m args 3 = F0 m 0 ((lg_sl [.ref ns, .int nu] ++ List.replicate (3 - (lg_sl [.ref ns, .int nu]).length) Slot.unset).toArray) [] from (by rw [ha]; exact lg_entry_eq m [.ref ns, .int nu] 3)]
  generalize (lg_sl [.ref ns, .int nu] ++ List.replicate (3 - (lg_sl [.ref ns, .int nu]).length) Slot.unset).toArray = ls at hl ⊢
  have hl : lv_has ls 3 [(0, .ref ns), (1, .int nu)] := hl
  refine lv_aload_n hx hb d_Ns_directoryOf_0 rfl (lv_at hl 0 rfl) ?_
  refine lv_iload_n hx hb d_Ns_directoryOf_1 rfl (lv_at hl 1 rfl) ?_
  by_cases hin : nu = 0
  · skip
    refine hm_callr (va_runV (As := [.int nu]) (b := ns) (rest := []) ⟨hx, hb, hml, hown, hts⟩ (c_Nodes_nodeOf l D t G ak av h ns sl od rt fs sc np nu f_ns f_sl f_rt hf0) ⟨cw9B 1 hts mw_274 mw_275 mw_187 rfl rfl (by decide +kernel) ⟨Nat.le_of_ble_eq_true rfl, Nat.le_of_ble_eq_true rfl⟩, hts _ mw_276, hts _ mw_277⟩ (hP_V (q := (R_Ns, F_Ns, 4)) kE_ok hE hK hH f_ns rfl) rfl rfl hl.1 rfl (lv_room (Nat.le_of_ble_eq_true rfl)) d_Ns_directoryOf_2 ⟨Nat.le_of_ble_eq_true rfl, Nat.le_of_ble_eq_true rfl⟩) hLo (fun r1 h2 H3 locs hp5 hH z4 hLo => ?_)
    have hz : s.heap.size ≤ H3.size := Nat.le_trans hz z4
    obtain ⟨hr9, rfl⟩ := hp5
    rw [if_pos hin] at hr9
    subst hr9
    refine W.eq (g2 := F0 m 5 ls [.ref rt]) rfl ?_
    refine lv_astore_n (lv' := [(2, .ref rt), (0, .ref ns), (1, .int nu)]) hx hb d_Ns_directoryOf_5 rfl hl (by decide) rfl (fun ls hl => ?_)
    refine lv_aload_n hx hb d_Ns_directoryOf_6 rfl (lv_at hl 0 rfl) ?_
    refine lv_ifnull hx hb d_Ns_directoryOf_7 ?_
    refine lv_aload_n hx hb d_Ns_directoryOf_10 rfl (lv_at hl 0 rfl) ?_
    refine hm_get (ci := 1) (v := .int 1) (C := R_No) (T := F_No) (N := 11) hx hb hts ig_No hown hK hH f_rt rfl 2 (by decide) (hts _ mw_185) (fun _ h9 => h9) rfl d_Ns_directoryOf_11 ?_
    refine lv_if_eq (tgt := 21) hx hb d_Ns_directoryOf_14 (by decide) (fun hc6 => absurd hc6 (by decide)) (fun hc6 => ?_)
    refine lv_aload_n hx hb d_Ns_directoryOf_17 rfl (lv_at hl 0 rfl) ?_
    refine lv_goto (tgt := 22) hx hb d_Ns_directoryOf_18 (by decide) ?_
    exact W.aret (v := va_rf (some rt)) hx hb hr (Or.inl ⟨_, rfl⟩) (va_rf_or _) (fun t9 ht hW => ⟨some rt, h, rfl, ⟨(if_pos hin).symm, rfl⟩, by rw [ht]; exact hH, by rw [ht]; exact hz⟩) hLo d_Ns_directoryOf_22
  · skip
    refine hm_callr (va_runV (As := [.int nu]) (b := ns) (rest := []) ⟨hx, hb, hml, hown, hts⟩ (c_Nodes_nodeOf l D t G ak av h ns sl od rt fs sc np nu f_ns f_sl f_rt hf0) ⟨cw9B 1 hts mw_274 mw_275 mw_187 rfl rfl (by decide +kernel) ⟨Nat.le_of_ble_eq_true rfl, Nat.le_of_ble_eq_true rfl⟩, hts _ mw_276, hts _ mw_277⟩ (hP_V (q := (R_Ns, F_Ns, 4)) kE_ok hE hK hH f_ns rfl) rfl rfl hl.1 rfl (lv_room (Nat.le_of_ble_eq_true rfl)) d_Ns_directoryOf_2 ⟨Nat.le_of_ble_eq_true rfl, Nat.le_of_ble_eq_true rfl⟩) hLo (fun r7 h8 H9 locs hp11 hH z10 hLo => ?_)
    have hz : s.heap.size ≤ H9.size := Nat.le_trans hz z10
    obtain ⟨hr9, rfl⟩ := hp11
    rw [if_neg hin] at hr9
    subst hr9
    refine W.eq (g2 := F0 m 5 ls [.null]) rfl ?_
    refine lv_astore_nN (lv' := [(2, .null), (0, .ref ns), (1, .int nu)]) hx hb d_Ns_directoryOf_5 rfl hl (by decide) rfl (fun ls hl => ?_)
    refine lv_aload_nN hx hb d_Ns_directoryOf_6 rfl (lv_at hl 0 rfl) ?_
    refine lv_ifnullN (tgt := 21) hx hb d_Ns_directoryOf_7 (by decide) ?_
    refine lv_null hx hb d_Ns_directoryOf_21 ?_
    exact W.aret (v := va_rf (none)) hx hb hr (Or.inl ⟨_, rfl⟩) (va_rf_or _) (fun t9 ht hW => ⟨none, h, rfl, ⟨(if_neg hin).symm, rfl⟩, by rw [ht]; exact hH, by rw [ht]; exact hz⟩) hLo d_Ns_directoryOf_22

set_option maxHeartbeats 4000000 in
set_option maxRecDepth 100000 in
theorem c_Node_depth (l : Launch) (D : va_G) (t : Nat → ClassId) (G : Heap) (ak av : Nat → Nat) (h : hM) (rt : Nat) (sc np : Int32) (f_rt : h rt = some (.inr (1, [.int 0, .null, .int 1, .long 0, .int 0, .int 0, .int 0, .int 0, .int 0, .int sc, .int np]))) : Met l y_No_depth (.code y_No_depth b_No_depth 3 (some .int) :: lw_g) { frames := 0, cells := 0, slots := 0, locals := 0 } (hP (kE D t G ak av) D vwCl G h [.ref rt]) (hQi D vwCl G (fun r h' => r = 0 ∧ h = h')) 0 0 (fun q => G.size ≤ q) := by
  refine Met.ofW (cc := b_No_depth) (maxL := 3) (ret := (some .int)) (by decide) rfl ?_
  intro p e s m args below meth c s₁ Bd hml hv
  obtain ⟨ha, hE, hH⟩ := hv
  have hx := Bd.exec
  have hb := Bd.bytes
  have hr := Bd.returns
  have hts : ∀ w ∈ lw_g, w.before args s = true := fun w hw => atoms_spec (ws := (.code y_No_depth b_No_depth 3 (some .int) :: lw_g)) Bd.pre w (List.mem_cons_of_mem _ hw)
  have hown : s.vm.findClass R_No = some m.cls := findClass_of_methodNamed Bd.named
  have hlocks := Bd.notSynchronized
  have hK := hE.1
  have hH0 := hH
  have hLo : hLc G.size [] := hLc_nil
  have hz : s.heap.size ≤ s.heap.size := Nat.le_refl _
  have hkp : kp [] h h := kp_rf
  have hl := lv_entry [.ref rt] (n := 3) (Nat.le_of_ble_eq_true rfl)
  rw [show entryFrame m args 3 = F0 m 0 ((lg_sl [.ref rt] ++ List.replicate (3 - (lg_sl [.ref rt]).length) Slot.unset).toArray) [] from (by rw [ha]; exact lg_entry_eq m [.ref rt] 3)]
  generalize (lg_sl [.ref rt] ++ List.replicate (3 - (lg_sl [.ref rt]).length) Slot.unset).toArray = ls at hl ⊢
  have hl : lv_has ls 3 [(0, .ref rt)] := hl
  refine lv_iconst (v := 0) hx hb d_No_depth_0 (by decide) ?_
  refine lv_istore_n (lv' := [(1, .int 0), (0, .ref rt)]) hx hb d_No_depth_1 rfl hl (by decide) rfl (fun ls hl => ?_)
  refine lv_aload_n hx hb d_No_depth_2 rfl (lv_at hl 1 rfl) ?_
  refine hm_get (ci := 1) (v := .null) (C := R_No) (T := F_No) (N := 11) hx hb hts ig_No hown hK hH f_rt rfl 1 (by decide) (hts _ mw_12) (fun _ h9 => h9) rfl d_No_depth_3 ?_
  refine lv_astore_nN (lv' := [(2, .null), (1, .int 0), (0, .ref rt)]) hx hb d_No_depth_6 rfl hl (by decide) rfl (fun ls hl => ?_)
  refine lv_aload_nN hx hb d_No_depth_7 rfl (lv_at hl 0 rfl) ?_
  refine lv_ifnullN (tgt := 22) hx hb d_No_depth_8 (by decide) ?_
  refine lv_iload_n hx hb d_No_depth_22 rfl (lv_at hl 1 rfl) ?_
  exact W.iret (v := 0) hx hb hr (fun t9 ht hW => ⟨0, h, rfl, ⟨rfl, rfl⟩, by rw [ht]; exact hH, by rw [ht]; exact hz⟩) hLo d_No_depth_23

set_option maxHeartbeats 4000000 in
set_option maxRecDepth 100000 in
theorem c_Nodes_other (l : Launch) (D : va_G) (t : Nat → ClassId) (G : Heap) (ak av : Nat → Nat) (h : hM) (ns sl od rt : Nat) (fs : Nat → Option Nat) (sc np : Int32) (wo : Int64) (f_ns : h ns = some (.inr (2, [.ref sl, .ref od, .int 1, .int 1]))) (f_sl : h sl = some (.inl ((t 4), 30, .inr (.inr (.inr (.inr fs)))))) (f_rt : h rt = some (.inr (1, [.int 0, .null, .int 1, .long 0, .int 0, .int 0, .int 0, .int 0, .int 0, .int sc, .int np]))) (hf0 : fs 0 = some rt) : Met l y_Ns_hasOtherNamed (.code y_Ns_hasOtherNamed b_Ns_hasOtherNamed 6 (some .boolean) :: lw_g) { frames := 0, cells := 0, slots := 0, locals := 0 } (hP (kE D t G ak av) D vwCl G h [.ref ns, .ref rt, .long wo, .null]) (hQi D vwCl G (fun r h' => r = 0 ∧ h = h')) 0 0 (fun q => G.size ≤ q) := by
  refine Met.ofW (cc := b_Ns_hasOtherNamed) (maxL := 6) (ret := (some .boolean)) (by decide) rfl ?_
  intro p e s m args below meth c s₁ Bd hml hv
  obtain ⟨ha, hE, hH⟩ := hv
  have hx := Bd.exec
  have hb := Bd.bytes
  have hr := Bd.returns
  have hts : ∀ w ∈ lw_g, w.before args s = true := fun w hw => atoms_spec (ws := (.code y_Ns_hasOtherNamed b_Ns_hasOtherNamed 6 (some .boolean) :: lw_g)) Bd.pre w (List.mem_cons_of_mem _ hw)
  have hown : s.vm.findClass R_Ns = some m.cls := findClass_of_methodNamed Bd.named
  have hlocks := Bd.notSynchronized
  have hK := hE.1
  have hH0 := hH
  have hLo : hLc G.size [] := hLc_nil
  have hz : s.heap.size ≤ s.heap.size := Nat.le_refl _
  have hkp : kp [] h h := kp_rf
  have hl := lv_entry [.ref ns, .ref rt, .long wo, .null] (n := 6) (Nat.le_of_ble_eq_true rfl)
  rw [show entryFrame m args 6 = F0 m 0 ((lg_sl [.ref ns, .ref rt, .long wo, .null] ++ List.replicate (6 - (lg_sl [.ref ns, .ref rt, .long wo, .null]).length) Slot.unset).toArray) [] from (by rw [ha]; exact lg_entry_eq m [.ref ns, .ref rt, .long wo, .null] 6)]
  generalize (lg_sl [.ref ns, .ref rt, .long wo, .null] ++ List.replicate (6 - (lg_sl [.ref ns, .ref rt, .long wo, .null]).length) Slot.unset).toArray = ls at hl ⊢
  have hl : lv_has ls 6 [(0, .ref ns), (1, .ref rt), (2, .long wo), (4, .null)] := hl
  refine lv_iconst (v := 0) hx hb d_Ns_hasOtherNamed_0 (by decide) ?_
  refine lv_istore (lv' := [(5, .int 0), (0, .ref ns), (1, .ref rt), (2, .long wo), (4, .null)]) hx hb d_Ns_hasOtherNamed_1 hl (by decide) rfl (fun ls hl => ?_)
  refine lv_iload hx hb d_Ns_hasOtherNamed_3 (lv_at hl 0 rfl) ?_
  refine lv_aload_n hx hb d_Ns_hasOtherNamed_5 rfl (lv_at hl 1 rfl) ?_
  refine hm_get (ci := 2) (v := .int 1) (C := R_Ns) (T := F_Ns) (N := 4) hx hb hts ig_Ns hown hK hH f_ns rfl 2 (by decide) (hts _ mw_37) (fun _ h9 => h9) rfl d_Ns_hasOtherNamed_6 ?_
  refine lv_icmp_ge (tgt := 61) hx hb d_Ns_hasOtherNamed_9 (by decide) (fun hc1 => absurd hc1 (by decide)) (fun hc1 => ?_)
  refine lv_aload_n hx hb d_Ns_hasOtherNamed_12 rfl (lv_at hl 1 rfl) ?_
  refine hm_get (ci := 2) (v := .ref sl) (C := R_Ns) (T := F_Ns) (N := 4) hx hb hts ig_Ns hown hK hH f_ns rfl 0 (by decide) (hts _ mw_35) (fun _ h9 => h9) rfl d_Ns_hasOtherNamed_13 ?_
  refine lv_iload hx hb d_Ns_hasOtherNamed_16 (lv_at hl 0 rfl) ?_
  refine hj_aald (v := .ref rt) hx hb hK hH 4 f_sl (C := R_No) rfl 0 (by decide) (by decide) (by decide) (by rw [hf0]; rfl) d_Ns_hasOtherNamed_18 ?_
  refine hm_get (ci := 1) (v := .null) (C := R_No) (T := F_No) (N := 11) hx hb hts ig_No hown hK hH f_rt rfl 1 (by decide) (hts _ mw_184) (fun _ h9 => h9) rfl d_Ns_hasOtherNamed_19 ?_
  refine lv_aload_n hx hb d_Ns_hasOtherNamed_22 rfl (lv_at hl 2 rfl) ?_
  refine lv_acmp_ne (rx := none) (ry := some rt) (tgt := 55) hx hb d_Ns_hasOtherNamed_23 (by decide) (fun hc2 => ?_) (fun hc2 => absurd hc2 (by simp))
  refine lv_iinc (v := 0 + 1) (lv' := [(5, .int (0 + 1)), (0, .ref ns), (1, .ref rt), (2, .long wo), (4, .null)]) hx hb d_Ns_hasOtherNamed_55 hl (k := 0) rfl (by rfl) (by decide) rfl (fun ls hl => ?_)
  refine lv_goto (tgt := 3) hx hb d_Ns_hasOtherNamed_58 (by decide) ?_
  refine lv_iload hx hb d_Ns_hasOtherNamed_3 (lv_at hl 0 rfl) ?_
  refine lv_aload_n hx hb d_Ns_hasOtherNamed_5 rfl (lv_at hl 1 rfl) ?_
  refine hm_get (ci := 2) (v := .int 1) (C := R_Ns) (T := F_Ns) (N := 4) hx hb hts ig_Ns hown hK hH f_ns rfl 2 (by decide) (hts _ mw_37) (fun _ h9 => h9) rfl d_Ns_hasOtherNamed_6 ?_
  refine lv_icmp_ge (tgt := 61) hx hb d_Ns_hasOtherNamed_9 (by decide) (fun hc3 => ?_) (fun hc3 => absurd (by decide) hc3)
  refine lv_iconst (v := 0) hx hb d_Ns_hasOtherNamed_61 (by decide) ?_
  exact W.zret (v := 0) hx hb hr (by decide) (fun t9 ht hW => ⟨0, h, rfl, ⟨rfl, rfl⟩, by rw [ht]; exact hH, by rw [ht]; exact hz⟩) hLo d_Ns_hasOtherNamed_62

set_option maxHeartbeats 4000000 in
set_option maxRecDepth 100000 in
theorem c_Nodes_append (l : Launch) (D : va_G) (t : Nat → ClassId) (G : Heap) (ak av : Nat → Nat) (h : hM) (ns sl od nd : Nat) (fs : Nat → Option Nat) (f_ns : h ns = some (.inr (2, [.ref sl, .ref od, .int 1, .int 1]))) (f_sl : h sl = some (.inl ((t 4), 30, .inr (.inr (.inr (.inr fs)))))) (f_nd : h nd = some (.inr (1, [.int 0, .null, .int 1, .long 0, .int 0, .int 0, .int 0, .int 0, .int 0, .int 0, .int 1]))) (hf1 : fs 1 = some nd) : Met l y_Ns_append (.code y_Ns_append b_Ns_append 2 (some (.object "WriteOnceDisc$Node")) :: lw_g) { frames := 0, cells := 0, slots := 0, locals := 0 } (hP (kE D t G ak av) D vwCl G h [.ref ns]) (hQr D vwCl G (fun r h' => r = some nd ∧ kp [ns, nd] h h' ∧ h' ns = some (.inr (2, [.ref sl, .ref od, .int (1 + 1), .int (1 + 1)])) ∧ h' nd = some (.inr (1, [.int 1, .null, .int 1, .long 0, .int 0, .int 0, .int 0, .int 0, .int 0, .int 0, .int 1])))) 0 0 (fun q => G.size ≤ q) := by
  refine Met.ofW (cc := b_Ns_append) (maxL := 2) (ret := (some (.object "WriteOnceDisc$Node"))) (by decide) rfl ?_
  intro p e s m args below meth c s₁ Bd hml hv
  obtain ⟨ha, hE, hH⟩ := hv
  have hx := Bd.exec
  have hb := Bd.bytes
  have hr := Bd.returns
  have hts : ∀ w ∈ lw_g, w.before args s = true := fun w hw => atoms_spec (ws := (.code y_Ns_append b_Ns_append 2 (some (.object "WriteOnceDisc$Node")) :: lw_g)) Bd.pre w (List.mem_cons_of_mem _ hw)
  have hown : s.vm.findClass R_Ns = some m.cls := findClass_of_methodNamed Bd.named
  have hlocks := Bd.notSynchronized
  have hK := hE.1
  have hH0 := hH
  have hLo : hLc G.size [] := hLc_nil
  have hz : s.heap.size ≤ s.heap.size := Nat.le_refl _
  have hkp : kp [ns, nd] h h := kp_rf
  have hl := lv_entry [.ref ns] (n := 2) (Nat.le_of_ble_eq_true rfl)
  rw [show entryFrame m args 2 = F0 m 0 ((lg_sl [.ref ns] ++ List.replicate (2 - (lg_sl [.ref ns]).length) Slot.unset).toArray) [] from (by rw [ha]; exact lg_entry_eq m [.ref ns] 2)]
  generalize (lg_sl [.ref ns] ++ List.replicate (2 - (lg_sl [.ref ns]).length) Slot.unset).toArray = ls at hl ⊢
  have hl : lv_has ls 2 [(0, .ref ns)] := hl
  refine lv_aload_n hx hb d_Ns_append_0 rfl (lv_at hl 0 rfl) ?_
  refine hm_get (ci := 2) (v := .int 1) (C := R_Ns) (T := F_Ns) (N := 4) hx hb hts ig_Ns hown hK hH f_ns rfl 2 (by decide) (hts _ mw_37) (fun _ h9 => h9) rfl d_Ns_append_1 ?_
  refine lv_aload_n hx hb d_Ns_append_4 rfl (lv_at hl 0 rfl) ?_
  refine hm_get (ci := 2) (v := .ref sl) (C := R_Ns) (T := F_Ns) (N := 4) hx hb hts ig_Ns hown hK hH f_ns rfl 0 (by decide) (hts _ mw_35) (fun _ h9 => h9) rfl d_Ns_append_5 ?_
  refine hm_alen (v := 30) hx hb hK hH 4 f_sl (ty := (.object "WriteOnceDisc$Node")) rfl (show Int32.ofNat 30 = 30 by decide) d_Ns_append_8 ?_
  refine lv_icmp_lt (tgt := 14) hx hb d_Ns_append_9 (by decide) (fun hc1 => ?_) (fun hc1 => absurd (by decide) hc1)
  refine lv_aload_n hx hb d_Ns_append_14 rfl (lv_at hl 0 rfl) ?_
  refine hm_get (ci := 2) (v := .ref sl) (C := R_Ns) (T := F_Ns) (N := 4) hx hb hts ig_Ns hown hK hH f_ns rfl 0 (by decide) (hts _ mw_35) (fun _ h9 => h9) rfl d_Ns_append_15 ?_
  refine lv_aload_n hx hb d_Ns_append_18 rfl (lv_at hl 0 rfl) ?_
  refine hm_get (ci := 2) (v := .int 1) (C := R_Ns) (T := F_Ns) (N := 4) hx hb hts ig_Ns hown hK hH f_ns rfl 2 (by decide) (hts _ mw_37) (fun _ h9 => h9) rfl d_Ns_append_19 ?_
  refine hj_aald (v := .ref nd) hx hb hK hH 4 f_sl (C := R_No) rfl 1 (by decide) (by decide) (by decide) (by rw [hf1]; rfl) d_Ns_append_22 ?_
  refine lv_astore_n (lv' := [(1, .ref nd), (0, .ref ns)]) hx hb d_Ns_append_23 rfl hl (by decide) rfl (fun ls hl => ?_)
  refine lv_aload_n hx hb d_Ns_append_24 rfl (lv_at hl 0 rfl) ?_
  refine lv_aload_n hx hb d_Ns_append_25 rfl (lv_at hl 1 rfl) ?_
  refine hm_get (ci := 2) (v := .int 1) (C := R_Ns) (T := F_Ns) (N := 4) hx hb hts ig_Ns hown hK hH f_ns rfl 3 (by decide) (hts _ mw_38) (fun _ h9 => h9) rfl d_Ns_append_26 ?_
  refine hm_put (ci := 1) (v := .int 1) (ty := .int) (C := R_No) (T := F_No) (N := 11) hx hb hts ig_No t_No tk_No nm_No hown hK hH hLo f_nd rfl 0 (by decide) (hts _ mw_273) (fun _ h9 => h9) rfl (by decide +kernel) rfl rfl (Nat.le_of_ble_eq_true rfl) d_Ns_append_29 (fun H2 locs hH z3 hLo => ?_)
  have hz : s.heap.size ≤ H2.size := by rw [z3]; exact hz
  obtain ⟨h4, e5⟩ : ∃ z, z = hu h nd (.inr (1, [.int 1, .null, .int 1, .long 0, .int 0, .int 0, .int 0, .int 0, .int 0, .int 0, .int 1])) := ⟨_, rfl⟩
  have hH : hm D vwCl G h4 H2 := by rw [e5]; exact hH
  have f_ns : h4 ns = some (.inr (2, [.ref sl, .ref od, .int 1, .int 1])) := by rw [e5, hu_n (h_neC f_ns f_nd (by decide))]; exact f_ns
  have f_sl : h4 sl = some (.inl ((t 4), 30, .inr (.inr (.inr (.inr fs))))) := by rw [e5, hu_n (h_neA f_sl f_nd)]; exact f_sl
  have f_nd : h4 nd = some (.inr (1, [.int 1, .null, .int 1, .long 0, .int 0, .int 0, .int 0, .int 0, .int 0, .int 0, .int 1])) := by rw [e5]; exact hu_s _ _ _
  have hkp : kp [ns, nd] h h4 := by rw [e5]; exact kp_put hkp (by simp)
  refine lv_aload_n hx hb d_Ns_append_32 rfl (lv_at hl 1 rfl) ?_
  refine lv_dup hx hb d_Ns_append_33 rfl ?_
  refine hm_get (ci := 2) (v := .int 1) (C := R_Ns) (T := F_Ns) (N := 4) hx hb hts ig_Ns hown hK hH f_ns rfl 2 (by decide) (hts _ mw_37) (fun _ h9 => h9) rfl d_Ns_append_34 ?_
  refine lv_iconst (v := 1) hx hb d_Ns_append_37 (by decide) ?_
  refine lv_iadd hx hb d_Ns_append_38 ?_
  refine hm_put (ci := 2) (v := .int (1 + 1)) (ty := .int) (C := R_Ns) (T := F_Ns) (N := 4) hx hb hts ig_Ns t_Ns tk_Ns nm_Ns hown hK hH hLo f_ns rfl 2 (by decide) (hts _ mw_37) (fun _ h9 => h9) rfl (by decide +kernel) rfl rfl (Nat.le_of_ble_eq_true rfl) d_Ns_append_39 (fun H6 locs hH z7 hLo => ?_)
  have hz : s.heap.size ≤ H6.size := by rw [z7]; exact hz
  obtain ⟨h8, e9⟩ : ∃ z, z = hu h4 ns (.inr (2, [.ref sl, .ref od, .int (1 + 1), .int 1])) := ⟨_, rfl⟩
  have hH : hm D vwCl G h8 H6 := by rw [e9]; exact hH
  have f_sl : h8 sl = some (.inl ((t 4), 30, .inr (.inr (.inr (.inr fs))))) := by rw [e9, hu_n (h_neA f_sl f_ns)]; exact f_sl
  have f_nd : h8 nd = some (.inr (1, [.int 1, .null, .int 1, .long 0, .int 0, .int 0, .int 0, .int 0, .int 0, .int 0, .int 1])) := by rw [e9, hu_n (h_neC f_nd f_ns (by decide))]; exact f_nd
  have f_ns : h8 ns = some (.inr (2, [.ref sl, .ref od, .int (1 + 1), .int 1])) := by rw [e9]; exact hu_s _ _ _
  have hkp : kp [ns, nd] h h8 := by rw [e9]; exact kp_put hkp (by simp)
  refine lv_aload_n hx hb d_Ns_append_42 rfl (lv_at hl 1 rfl) ?_
  refine lv_dup hx hb d_Ns_append_43 rfl ?_
  refine hm_get (ci := 2) (v := .int 1) (C := R_Ns) (T := F_Ns) (N := 4) hx hb hts ig_Ns hown hK hH f_ns rfl 3 (by decide) (hts _ mw_38) (fun _ h9 => h9) rfl d_Ns_append_44 ?_
  refine lv_iconst (v := 1) hx hb d_Ns_append_47 (by decide) ?_
  refine lv_iadd hx hb d_Ns_append_48 ?_
  refine hm_put (ci := 2) (v := .int (1 + 1)) (ty := .int) (C := R_Ns) (T := F_Ns) (N := 4) hx hb hts ig_Ns t_Ns tk_Ns nm_Ns hown hK hH hLo f_ns rfl 3 (by decide) (hts _ mw_38) (fun _ h9 => h9) rfl (by decide +kernel) rfl rfl (Nat.le_of_ble_eq_true rfl) d_Ns_append_49 (fun H10 locs hH z11 hLo => ?_)
  have hz : s.heap.size ≤ H10.size := by rw [z11]; exact hz
  obtain ⟨h12, e13⟩ : ∃ z, z = hu h8 ns (.inr (2, [.ref sl, .ref od, .int (1 + 1), .int (1 + 1)])) := ⟨_, rfl⟩
  have hH : hm D vwCl G h12 H10 := by rw [e13]; exact hH
  have f_sl : h12 sl = some (.inl ((t 4), 30, .inr (.inr (.inr (.inr fs))))) := by rw [e13, hu_n (h_neA f_sl f_ns)]; exact f_sl
  have f_nd : h12 nd = some (.inr (1, [.int 1, .null, .int 1, .long 0, .int 0, .int 0, .int 0, .int 0, .int 0, .int 0, .int 1])) := by rw [e13, hu_n (h_neC f_nd f_ns (by decide))]; exact f_nd
  have f_ns : h12 ns = some (.inr (2, [.ref sl, .ref od, .int (1 + 1), .int (1 + 1)])) := by rw [e13]; exact hu_s _ _ _
  have hkp : kp [ns, nd] h h12 := by rw [e13]; exact kp_put hkp (by simp)
  refine lv_aload_n hx hb d_Ns_append_52 rfl (lv_at hl 0 rfl) ?_
  exact W.aret (v := va_rf (some nd)) hx hb hr (Or.inl ⟨_, rfl⟩) (va_rf_or _) (fun t9 ht hW => ⟨some nd, h12, rfl, ⟨rfl, hkp, f_ns, f_nd⟩, by rw [ht]; exact hH, by rw [ht]; exact hz⟩) hLo d_Ns_append_53

set_option maxHeartbeats 4000000 in
set_option maxRecDepth 100000 in
theorem c_Node_takeName (l : Launch) (D : va_G) (t : Nat → ClassId) (G : Heap) (ak av : Nat → Nat) (h : hM) (nd rt : Nat) (di : Int32) (wo : Int64) (f_nd : h nd = some (.inr (1, [.int 1, .ref rt, .int di, .long 0, .int 0, .int 0, .int 0, .int 0, .int 0, .int 0, .int 1]))) : Met l y_No_takeName (.code y_No_takeName b_No_takeName 4 none :: lw_g) { frames := 0, cells := 0, slots := 0, locals := 0 } (hP (kE D t G ak av) D vwCl G h [.ref nd, .long wo]) (hQv D vwCl G (fun h' => kp [nd] h h' ∧ ∃ le : Int32, h' nd = some (.inr (1, [.int 1, .ref rt, .int di, .long wo, .int le, .int 0, .int 0, .int 0, .int 0, .int 0, .int 1])))) 0 0 (fun q => G.size ≤ q) := by
  refine Met.ofW (cc := b_No_takeName) (maxL := 4) (ret := none) (by decide) rfl ?_
  intro p e s m args below meth c s₁ Bd hml hv
  obtain ⟨ha, hE, hH⟩ := hv
  have hx := Bd.exec
  have hb := Bd.bytes
  have hr := Bd.returns
  have hts : ∀ w ∈ lw_g, w.before args s = true := fun w hw => atoms_spec (ws := (.code y_No_takeName b_No_takeName 4 none :: lw_g)) Bd.pre w (List.mem_cons_of_mem _ hw)
  have hown : s.vm.findClass R_No = some m.cls := findClass_of_methodNamed Bd.named
  have hlocks := Bd.notSynchronized
  have hK := hE.1
  have hH0 := hH
  have hLo : hLc G.size [] := hLc_nil
  have hz : s.heap.size ≤ s.heap.size := Nat.le_refl _
  have hkp : kp [nd] h h := kp_rf
  have hl := lv_entry [.ref nd, .long wo] (n := 4) (Nat.le_of_ble_eq_true rfl)
  rw [show entryFrame m args 4 = F0 m 0 ((lg_sl [.ref nd, .long wo] ++ List.replicate (4 - (lg_sl [.ref nd, .long wo]).length) Slot.unset).toArray) [] from (by rw [ha]; exact lg_entry_eq m [.ref nd, .long wo] 4)]
  generalize (lg_sl [.ref nd, .long wo] ++ List.replicate (4 - (lg_sl [.ref nd, .long wo]).length) Slot.unset).toArray = ls at hl ⊢
  have hl : lv_has ls 4 [(0, .ref nd), (1, .long wo)] := hl
  refine lv_aload_n hx hb d_No_takeName_0 rfl (lv_at hl 0 rfl) ?_
  refine lv_lload_n hx hb d_No_takeName_1 rfl (lv_at hl 1 rfl) ?_
  refine hm_put (ci := 1) (v := .long wo) (ty := .long) (C := R_No) (T := F_No) (N := 11) hx hb hts ig_No t_No tk_No nm_No hown hK hH hLo f_nd rfl 3 (by decide) (hts _ mw_14) (fun _ h9 => h9) rfl (by decide +kernel) rfl rfl (Nat.le_of_ble_eq_true rfl) d_No_takeName_2 (fun H1 locs hH z2 hLo => ?_)
  have hz : s.heap.size ≤ H1.size := by rw [z2]; exact hz
  obtain ⟨h3, e4⟩ : ∃ z, z = hu h nd (.inr (1, [.int 1, .ref rt, .int di, .long wo, .int 0, .int 0, .int 0, .int 0, .int 0, .int 0, .int 1])) := ⟨_, rfl⟩
  have hH : hm D vwCl G h3 H1 := by rw [e4]; exact hH
  have f_nd : h3 nd = some (.inr (1, [.int 1, .ref rt, .int di, .long wo, .int 0, .int 0, .int 0, .int 0, .int 0, .int 0, .int 1])) := by rw [e4]; exact hu_s _ _ _
  have hkp : kp [nd] h h3 := by rw [e4]; exact kp_put hkp (by simp)
  refine lv_aload_n hx hb d_No_takeName_5 rfl (lv_at hl 0 rfl) ?_
  refine lv_iconst (v := 0) hx hb d_No_takeName_6 (by decide) ?_
  refine hm_put (ci := 1) (v := .int 0) (ty := .int) (C := R_No) (T := F_No) (N := 11) hx hb hts ig_No t_No tk_No nm_No hown hK hH hLo f_nd rfl 4 (by decide) (hts _ mw_15) (fun _ h9 => h9) rfl (by decide +kernel) rfl rfl (Nat.le_of_ble_eq_true rfl) d_No_takeName_7 (fun H5 locs hH z6 hLo => ?_)
  have hz : s.heap.size ≤ H5.size := by rw [z6]; exact hz
  obtain ⟨h7, e8⟩ : ∃ z, z = hu h3 nd (.inr (1, [.int 1, .ref rt, .int di, .long wo, .int 0, .int 0, .int 0, .int 0, .int 0, .int 0, .int 1])) := ⟨_, rfl⟩
  have hH : hm D vwCl G h7 H5 := by rw [e8]; exact hH
  have f_nd : h7 nd = some (.inr (1, [.int 1, .ref rt, .int di, .long wo, .int 0, .int 0, .int 0, .int 0, .int 0, .int 0, .int 1])) := by rw [e8]; exact hu_s _ _ _
  have hkp : kp [nd] h h7 := by rw [e8]; exact kp_put hkp (by simp)
  refine lv_iconst (v := 0) hx hb d_No_takeName_10 (by decide) ?_
  refine lv_topi (fun v9 e10 => ?_)
  obtain rfl : v9 = 64 - nI (8 * 8) := e10.trans (by decide)
  refine lv_istore_n (lv' := [(3, .int (64 - nI (8 * 8))), (0, .ref nd), (1, .long wo)]) hx hb d_No_takeName_11 rfl hl (by decide) rfl (fun ls hl => ?_)
  refine hm_loop (fun k ls H locs hh => ∃ (k9 : Nat) (le : Int32), k = k9 ∧ lv_has ls 4 [(3, .int (64 - nI (8 * k9))), (0, .ref nd), (1, .long wo)] ∧ hm D vwCl G hh H ∧ s.heap.size ≤ H.size ∧ hLc G.size locs ∧ kp [nd] h hh ∧ hh nd = some (.inr (1, [.int 1, .ref rt, .int di, .long wo, .int le, .int 0, .int 0, .int 0, .int 0, .int 0, .int 1])) ∧ (k9 ≤ 8)) ?_ (hh := h7) ⟨8, 0, rfl, (lv_sub hl [0, 1, 2] rfl), hH, hz, hLo, hkp, f_nd, by omega⟩
  rintro k ls H locs hh ⟨k9, le, hk, hl, hH, hz, hLo, hkp, f_nd, hk9⟩ ih
  rcases (show k9 = 0 ∨ 0 < k9 by omega) with rfl | hpos
  · skip
    refine lv_iload_n hx hb d_No_takeName_12 rfl (lv_at hl 0 rfl) ?_
    refine lv_bipush (v := 64) hx hb d_No_takeName_13 (by decide) ?_
    refine lv_icmp_ge (tgt := 42) hx hb d_No_takeName_15 (by decide) (fun hc11 => ?_) (fun hc11 => absurd ((sn_ge 0 (by decide)).mpr rfl) hc11)
    exact W.vret hx hb hr (fun t9 ht hW => ⟨hh, rfl, ⟨hkp, le, f_nd⟩, by rw [ht]; exact hH, by rw [ht]; exact hz⟩) hLo d_No_takeName_42
  · skip
    obtain ⟨j, rfl⟩ : ∃ j, k9 = j + 1 := ⟨k9 - 1, by omega⟩
    refine lv_iload_n hx hb d_No_takeName_12 rfl (lv_at hl 0 rfl) ?_
    refine lv_bipush (v := 64) hx hb d_No_takeName_13 (by decide) ?_
    refine lv_icmp_ge (tgt := 42) hx hb d_No_takeName_15 (by decide) (fun hc12 => absurd hc12 (mt (sn_ge (j + 1) (by omega)).mp (by omega))) (fun hc12 => ?_)
    refine lv_lload_n hx hb d_No_takeName_18 rfl (lv_at hl 2 rfl) ?_
    refine lv_iload_n hx hb d_No_takeName_19 rfl (lv_at hl 0 rfl) ?_
    refine lv_lushr (v := (wo.toUInt64 >>> ((64 - nI (8 * (j + 1))).toInt64.toUInt64 &&& Int64.toUInt64 63)).toInt64) hx hb d_No_takeName_20 rfl ?_
    refine lv_lconst (v := 0) hx hb d_No_takeName_21 (by decide) ?_
    refine W.lcmp hx hb d_No_takeName_22 ?_
    refine lv_if_eq (tgt := 36) hx hb d_No_takeName_23 (by decide) (fun hc13 => ?_) (fun hc13 => ?_)
    · skip
      refine lv_iinc (v := 64 - nI (8 * j)) (lv' := [(3, .int (64 - nI (8 * j))), (0, .ref nd), (1, .long wo)]) hx hb d_No_takeName_36 hl (k := 0) rfl (sn_dec j (by omega)) (by decide) rfl (fun ls hl => ?_)
      refine lv_goto (tgt := 12) hx hb d_No_takeName_39 (by decide) ?_
      exact ih (j) ls _ locs _ (by rw [hk]; omega) ⟨j, le, rfl, (lv_sub hl [0, 1, 2] rfl), hH, hz, hLo, hkp, f_nd, by omega⟩
    · skip
      refine lv_aload_n hx hb d_No_takeName_26 rfl (lv_at hl 1 rfl) ?_
      refine lv_dup hx hb d_No_takeName_27 rfl ?_
      refine hm_get (ci := 1) (v := .int le) (C := R_No) (T := F_No) (N := 11) hx hb hts ig_No hown hK hH f_nd rfl 4 (by decide) (hts _ mw_15) (fun _ h9 => h9) rfl d_No_takeName_28 ?_
      refine lv_iconst (v := 1) hx hb d_No_takeName_31 (by decide) ?_
      refine lv_iadd hx hb d_No_takeName_32 ?_
      refine hm_put (ci := 1) (v := .int (le + 1)) (ty := .int) (C := R_No) (T := F_No) (N := 11) hx hb hts ig_No t_No tk_No nm_No hown hK hH hLo f_nd rfl 4 (by decide) (hts _ mw_15) (fun _ h9 => h9) rfl (by decide +kernel) rfl rfl (Nat.le_of_ble_eq_true rfl) d_No_takeName_33 (fun H14 locs hH z15 hLo => ?_)
      have hz : s.heap.size ≤ H14.size := by rw [z15]; exact hz
      obtain ⟨h16, e17⟩ : ∃ z, z = hu hh nd (.inr (1, [.int 1, .ref rt, .int di, .long wo, .int (le + 1), .int 0, .int 0, .int 0, .int 0, .int 0, .int 1])) := ⟨_, rfl⟩
      have hH : hm D vwCl G h16 H14 := by rw [e17]; exact hH
      have f_nd : h16 nd = some (.inr (1, [.int 1, .ref rt, .int di, .long wo, .int (le + 1), .int 0, .int 0, .int 0, .int 0, .int 0, .int 1])) := by rw [e17]; exact hu_s _ _ _
      have hkp : kp [nd] h h16 := by rw [e17]; exact kp_put hkp (by simp)
      refine lv_iinc (v := 64 - nI (8 * j)) (lv' := [(3, .int (64 - nI (8 * j))), (0, .ref nd), (1, .long wo)]) hx hb d_No_takeName_36 hl (k := 0) rfl (sn_dec j (by omega)) (by decide) rfl (fun ls hl => ?_)
      refine lv_goto (tgt := 12) hx hb d_No_takeName_39 (by decide) ?_
      exact ih (j) ls _ locs _ (by rw [hk]; omega) ⟨j, _, rfl, (lv_sub hl [0, 1, 2] rfl), hH, hz, hLo, hkp, f_nd, by omega⟩

set_option maxHeartbeats 4000000 in
set_option maxRecDepth 100000 in
theorem c_Node_takeContent (l : Launch) (D : va_G) (t : Nat → ClassId) (G : Heap) (ak av : Nat → Nat) (h : hM) (nd rt : Nat) (di le sz sd : Int32) (wo : Int64) (f_nd : h nd = some (.inr (1, [.int 1, .ref rt, .int di, .long wo, .int le, .int 0, .int 0, .int 0, .int 0, .int 0, .int 1]))) : Met l y_No_takeContent (.code y_No_takeContent b_No_takeContent 3 none :: lw_g) { frames := 0, cells := 0, slots := 0, locals := 0 } (hP (kE D t G ak av) D vwCl G h [.ref nd, .int sz, .int sd]) (hQv D vwCl G (fun h' => kp [nd] h h' ∧ h' nd = some (.inr (1, [.int 1, .ref rt, .int di, .long wo, .int le, .int sz, .int sd, .int 0, .int 0, .int 0, .int 1])))) 0 0 (fun q => G.size ≤ q) := by
  refine Met.ofW (cc := b_No_takeContent) (maxL := 3) (ret := none) (by decide) rfl ?_
  intro p e s m args below meth c s₁ Bd hml hv
  obtain ⟨ha, hE, hH⟩ := hv
  have hx := Bd.exec
  have hb := Bd.bytes
  have hr := Bd.returns
  have hts : ∀ w ∈ lw_g, w.before args s = true := fun w hw => atoms_spec (ws := (.code y_No_takeContent b_No_takeContent 3 none :: lw_g)) Bd.pre w (List.mem_cons_of_mem _ hw)
  have hown : s.vm.findClass R_No = some m.cls := findClass_of_methodNamed Bd.named
  have hlocks := Bd.notSynchronized
  have hK := hE.1
  have hH0 := hH
  have hLo : hLc G.size [] := hLc_nil
  have hz : s.heap.size ≤ s.heap.size := Nat.le_refl _
  have hkp : kp [nd] h h := kp_rf
  have hl := lv_entry [.ref nd, .int sz, .int sd] (n := 3) (Nat.le_of_ble_eq_true rfl)
  rw [show entryFrame m args 3 = F0 m 0 ((lg_sl [.ref nd, .int sz, .int sd] ++ List.replicate (3 - (lg_sl [.ref nd, .int sz, .int sd]).length) Slot.unset).toArray) [] from (by rw [ha]; exact lg_entry_eq m [.ref nd, .int sz, .int sd] 3)]
  generalize (lg_sl [.ref nd, .int sz, .int sd] ++ List.replicate (3 - (lg_sl [.ref nd, .int sz, .int sd]).length) Slot.unset).toArray = ls at hl ⊢
  have hl : lv_has ls 3 [(0, .ref nd), (1, .int sz), (2, .int sd)] := hl
  refine lv_aload_n hx hb d_No_takeContent_0 rfl (lv_at hl 0 rfl) ?_
  refine lv_iload_n hx hb d_No_takeContent_1 rfl (lv_at hl 1 rfl) ?_
  refine hm_put (ci := 1) (v := .int sz) (ty := .int) (C := R_No) (T := F_No) (N := 11) hx hb hts ig_No t_No tk_No nm_No hown hK hH hLo f_nd rfl 5 (by decide) (hts _ mw_16) (fun _ h9 => h9) rfl (by decide +kernel) rfl rfl (Nat.le_of_ble_eq_true rfl) d_No_takeContent_2 (fun H1 locs hH z2 hLo => ?_)
  have hz : s.heap.size ≤ H1.size := by rw [z2]; exact hz
  obtain ⟨h3, e4⟩ : ∃ z, z = hu h nd (.inr (1, [.int 1, .ref rt, .int di, .long wo, .int le, .int sz, .int 0, .int 0, .int 0, .int 0, .int 1])) := ⟨_, rfl⟩
  have hH : hm D vwCl G h3 H1 := by rw [e4]; exact hH
  have f_nd : h3 nd = some (.inr (1, [.int 1, .ref rt, .int di, .long wo, .int le, .int sz, .int 0, .int 0, .int 0, .int 0, .int 1])) := by rw [e4]; exact hu_s _ _ _
  have hkp : kp [nd] h h3 := by rw [e4]; exact kp_put hkp (by simp)
  refine lv_aload_n hx hb d_No_takeContent_5 rfl (lv_at hl 0 rfl) ?_
  refine lv_iload_n hx hb d_No_takeContent_6 rfl (lv_at hl 2 rfl) ?_
  refine hm_put (ci := 1) (v := .int sd) (ty := .int) (C := R_No) (T := F_No) (N := 11) hx hb hts ig_No t_No tk_No nm_No hown hK hH hLo f_nd rfl 6 (by decide) (hts _ mw_17) (fun _ h9 => h9) rfl (by decide +kernel) rfl rfl (Nat.le_of_ble_eq_true rfl) d_No_takeContent_7 (fun H5 locs hH z6 hLo => ?_)
  have hz : s.heap.size ≤ H5.size := by rw [z6]; exact hz
  obtain ⟨h7, e8⟩ : ∃ z, z = hu h3 nd (.inr (1, [.int 1, .ref rt, .int di, .long wo, .int le, .int sz, .int sd, .int 0, .int 0, .int 0, .int 1])) := ⟨_, rfl⟩
  have hH : hm D vwCl G h7 H5 := by rw [e8]; exact hH
  have f_nd : h7 nd = some (.inr (1, [.int 1, .ref rt, .int di, .long wo, .int le, .int sz, .int sd, .int 0, .int 0, .int 0, .int 1])) := by rw [e8]; exact hu_s _ _ _
  have hkp : kp [nd] h h7 := by rw [e8]; exact kp_put hkp (by simp)
  refine lv_aload_n hx hb d_No_takeContent_10 rfl (lv_at hl 0 rfl) ?_
  refine lv_iconst (v := 0) hx hb d_No_takeContent_11 (by decide) ?_
  refine hm_put (ci := 1) (v := .int 0) (ty := .boolean) (C := R_No) (T := F_No) (N := 11) hx hb hts ig_No t_No tk_No nm_No hown hK hH hLo f_nd rfl 7 (by decide) (hts _ mw_18) (fun _ h9 => h9) rfl (by decide +kernel) (by decide) (by decide) (Nat.le_of_ble_eq_true rfl) d_No_takeContent_12 (fun H9 locs hH z10 hLo => ?_)
  have hz : s.heap.size ≤ H9.size := by rw [z10]; exact hz
  obtain ⟨h11, e12⟩ : ∃ z, z = hu h7 nd (.inr (1, [.int 1, .ref rt, .int di, .long wo, .int le, .int sz, .int sd, .int 0, .int 0, .int 0, .int 1])) := ⟨_, rfl⟩
  have hH : hm D vwCl G h11 H9 := by rw [e12]; exact hH
  have f_nd : h11 nd = some (.inr (1, [.int 1, .ref rt, .int di, .long wo, .int le, .int sz, .int sd, .int 0, .int 0, .int 0, .int 1])) := by rw [e12]; exact hu_s _ _ _
  have hkp : kp [nd] h h11 := by rw [e12]; exact kp_put hkp (by simp)
  refine lv_aload_n hx hb d_No_takeContent_15 rfl (lv_at hl 0 rfl) ?_
  refine lv_iconst (v := 0) hx hb d_No_takeContent_16 (by decide) ?_
  refine hm_put (ci := 1) (v := .int 0) (ty := .int) (C := R_No) (T := F_No) (N := 11) hx hb hts ig_No t_No tk_No nm_No hown hK hH hLo f_nd rfl 8 (by decide) (hts _ mw_19) (fun _ h9 => h9) rfl (by decide +kernel) rfl rfl (Nat.le_of_ble_eq_true rfl) d_No_takeContent_17 (fun H13 locs hH z14 hLo => ?_)
  have hz : s.heap.size ≤ H13.size := by rw [z14]; exact hz
  obtain ⟨h15, e16⟩ : ∃ z, z = hu h11 nd (.inr (1, [.int 1, .ref rt, .int di, .long wo, .int le, .int sz, .int sd, .int 0, .int 0, .int 0, .int 1])) := ⟨_, rfl⟩
  have hH : hm D vwCl G h15 H13 := by rw [e16]; exact hH
  have f_nd : h15 nd = some (.inr (1, [.int 1, .ref rt, .int di, .long wo, .int le, .int sz, .int sd, .int 0, .int 0, .int 0, .int 1])) := by rw [e16]; exact hu_s _ _ _
  have hkp : kp [nd] h h15 := by rw [e16]; exact kp_put hkp (by simp)
  exact W.vret hx hb hr (fun t9 ht hW => ⟨h15, rfl, ⟨hkp, f_nd⟩, by rw [ht]; exact hH, by rw [ht]; exact hz⟩) hLo d_No_takeContent_20

set_option maxHeartbeats 4000000 in
set_option maxRecDepth 100000 in
theorem c_Node_become1 (l : Launch) (D : va_G) (t : Nat → ClassId) (G : Heap) (ak av : Nat → Nat) (h : hM) (nd rt : Nat) (wo : Int64) (f_nd : h nd = some (.inr (1, [.int 1, .null, .int 1, .long 0, .int 0, .int 0, .int 0, .int 0, .int 0, .int 0, .int 1]))) : Met l y_No_become (.code y_No_become b_No_become 5 none :: lw_g) { frames := 1, cells := 0, slots := 0, locals := 23 } (hP (kE D t G ak av) D vwCl G h [.ref nd, .ref rt, .int 1, .long wo]) (hQv D vwCl G (fun h' => kp [nd] h h' ∧ ∃ le : Int32, h' nd = some (.inr (1, [.int 1, .ref rt, .int 1, .long wo, .int le, .int 0, .int 0, .int 0, .int 0, .int 0, .int 1])))) 0 0 (fun q => G.size ≤ q) := by
  refine Met.ofW (cc := b_No_become) (maxL := 5) (ret := none) (by decide) rfl ?_
  intro p e s m args below meth c s₁ Bd hml hv
  obtain ⟨ha, hE, hH⟩ := hv
  have hx := Bd.exec
  have hb := Bd.bytes
  have hr := Bd.returns
  have hts : ∀ w ∈ lw_g, w.before args s = true := fun w hw => atoms_spec (ws := (.code y_No_become b_No_become 5 none :: lw_g)) Bd.pre w (List.mem_cons_of_mem _ hw)
  have hown : s.vm.findClass R_No = some m.cls := findClass_of_methodNamed Bd.named
  have hlocks := Bd.notSynchronized
  have hK := hE.1
  have hH0 := hH
  have hLo : hLc G.size [] := hLc_nil
  have hz : s.heap.size ≤ s.heap.size := Nat.le_refl _
  have hkp : kp [nd] h h := kp_rf
  have hl := lv_entry [.ref nd, .ref rt, .int 1, .long wo] (n := 5) (Nat.le_of_ble_eq_true rfl)
  rw [show entryFrame m args 5 = F0 m 0 ((lg_sl [.ref nd, .ref rt, .int 1, .long wo] ++ List.replicate (5 - (lg_sl [.ref nd, .ref rt, .int 1, .long wo]).length) Slot.unset).toArray) [] from (by rw [ha]; exact lg_entry_eq m [.ref nd, .ref rt, .int 1, .long wo] 5)]
  generalize (lg_sl [.ref nd, .ref rt, .int 1, .long wo] ++ List.replicate (5 - (lg_sl [.ref nd, .ref rt, .int 1, .long wo]).length) Slot.unset).toArray = ls at hl ⊢
  have hl : lv_has ls 5 [(0, .ref nd), (1, .ref rt), (2, .int 1), (3, .long wo)] := hl
  refine lv_aload_n hx hb d_No_become_0 rfl (lv_at hl 0 rfl) ?_
  refine lv_aload_n hx hb d_No_become_1 rfl (lv_at hl 1 rfl) ?_
  refine hm_put (ci := 1) (v := .ref rt) (ty := (.object "WriteOnceDisc$Node")) (C := R_No) (T := F_No) (N := 11) hx hb hts ig_No t_No tk_No nm_No hown hK hH hLo f_nd rfl 1 (by decide) (hts _ mw_12) (fun _ h9 => h9) rfl (by decide +kernel) rfl rfl (Nat.le_of_ble_eq_true rfl) d_No_become_2 (fun H1 locs hH z2 hLo => ?_)
  have hz : s.heap.size ≤ H1.size := by rw [z2]; exact hz
  obtain ⟨h3, e4⟩ : ∃ z, z = hu h nd (.inr (1, [.int 1, .ref rt, .int 1, .long 0, .int 0, .int 0, .int 0, .int 0, .int 0, .int 0, .int 1])) := ⟨_, rfl⟩
  have hH : hm D vwCl G h3 H1 := by rw [e4]; exact hH
  have f_nd : h3 nd = some (.inr (1, [.int 1, .ref rt, .int 1, .long 0, .int 0, .int 0, .int 0, .int 0, .int 0, .int 0, .int 1])) := by rw [e4]; exact hu_s _ _ _
  have hkp : kp [nd] h h3 := by rw [e4]; exact kp_put hkp (by simp)
  refine lv_aload_n hx hb d_No_become_5 rfl (lv_at hl 0 rfl) ?_
  refine lv_iload_n hx hb d_No_become_6 rfl (lv_at hl 2 rfl) ?_
  refine hm_put (ci := 1) (v := .int 1) (ty := .boolean) (C := R_No) (T := F_No) (N := 11) hx hb hts ig_No t_No tk_No nm_No hown hK hH hLo f_nd rfl 2 (by decide) (hts _ mw_13) (fun _ h9 => h9) rfl (by decide +kernel) (by decide) (by decide) (Nat.le_of_ble_eq_true rfl) d_No_become_7 (fun H5 locs hH z6 hLo => ?_)
  have hz : s.heap.size ≤ H5.size := by rw [z6]; exact hz
  obtain ⟨h7, e8⟩ : ∃ z, z = hu h3 nd (.inr (1, [.int 1, .ref rt, .int 1, .long 0, .int 0, .int 0, .int 0, .int 0, .int 0, .int 0, .int 1])) := ⟨_, rfl⟩
  have hH : hm D vwCl G h7 H5 := by rw [e8]; exact hH
  have f_nd : h7 nd = some (.inr (1, [.int 1, .ref rt, .int 1, .long 0, .int 0, .int 0, .int 0, .int 0, .int 0, .int 0, .int 1])) := by rw [e8]; exact hu_s _ _ _
  have hkp : kp [nd] h h7 := by rw [e8]; exact kp_put hkp (by simp)
  refine lv_aload_n hx hb d_No_become_10 rfl (lv_at hl 0 rfl) ?_
  refine lv_lload_n hx hb d_No_become_11 rfl (lv_at hl 3 rfl) ?_
  refine hm_callv (va_runV (As := [.long wo]) (b := nd) (rest := []) ⟨hx, hb, hml, hown, hts⟩ (c_Node_takeName l D t G ak av h7 nd rt 1 wo f_nd) ⟨cw9B 1 hts mw_278 mw_279 mw_40 rfl rfl (by decide +kernel) ⟨Nat.le_of_ble_eq_true rfl, Nat.le_of_ble_eq_true rfl⟩, hts _ mw_280, hts _ mw_281⟩ (hP_V (q := (R_No, F_No, 11)) kE_ok hE hK hH f_nd rfl) rfl rfl hl.1 rfl (lv_room (Nat.le_of_ble_eq_true rfl)) d_No_become_12 ⟨Nat.le_of_ble_eq_true rfl, Nat.le_of_ble_eq_true rfl⟩) hLo (fun h9 H10 locs hp12 hH z11 hLo => ?_)
  have hz : s.heap.size ≤ H10.size := Nat.le_trans hz z11
  obtain ⟨hk9, le, hn9⟩ := hp12
  have hkp : kp [nd] h h9 := kp_tr2 hkp hk9 (List.forall_mem_cons.mpr ⟨Or.inl (by simp), List.forall_mem_nil _⟩)
  have f_nd : h9 nd = some (.inr (1, [.int 1, .ref rt, .int 1, .long wo, .int le, .int 0, .int 0, .int 0, .int 0, .int 0, .int 1])) := hn9
  refine lv_aload_n hx hb d_No_become_15 rfl (lv_at hl 0 rfl) ?_
  refine lv_iconst (v := 0) hx hb d_No_become_16 (by decide) ?_
  refine lv_iconst (v := 0) hx hb d_No_become_17 (by decide) ?_
  refine hm_callv (va_runV (As := [.int 0, .int 0]) (b := nd) (rest := []) ⟨hx, hb, hml, hown, hts⟩ (c_Node_takeContent l D t G ak av h9 nd rt 1 le 0 0 wo f_nd) ⟨cw9B 2 hts mw_282 mw_283 mw_40 rfl rfl (by decide +kernel) ⟨Nat.le_of_ble_eq_true rfl, Nat.le_of_ble_eq_true rfl⟩, hts _ mw_284, hts _ mw_285⟩ (hP_V (q := (R_No, F_No, 11)) kE_ok hE hK hH f_nd rfl) rfl rfl hl.1 rfl (lv_room (Nat.le_of_ble_eq_true rfl)) d_No_become_18 ⟨Nat.le_of_ble_eq_true rfl, Nat.le_of_ble_eq_true rfl⟩) hLo (fun h13 H14 locs hp16 hH z15 hLo => ?_)
  have hz : s.heap.size ≤ H14.size := Nat.le_trans hz z15
  obtain ⟨hk9, hn9⟩ := hp16
  have hkp : kp [nd] h h13 := kp_tr2 hkp hk9 (List.forall_mem_cons.mpr ⟨Or.inl (by simp), List.forall_mem_nil _⟩)
  have f_nd : h13 nd = some (.inr (1, [.int 1, .ref rt, .int 1, .long wo, .int le, .int 0, .int 0, .int 0, .int 0, .int 0, .int 1])) := hn9
  exact W.vret hx hb hr (fun t9 ht hW => ⟨h13, rfl, ⟨hkp, le, f_nd⟩, by rw [ht]; exact hH, by rw [ht]; exact hz⟩) hLo d_No_become_21

set_option maxHeartbeats 4000000 in
set_option maxRecDepth 100000 in
theorem c_Node_become0 (l : Launch) (D : va_G) (t : Nat → ClassId) (G : Heap) (ak av : Nat → Nat) (h : hM) (nd rt : Nat) (wo : Int64) (f_nd : h nd = some (.inr (1, [.int 1, .null, .int 1, .long 0, .int 0, .int 0, .int 0, .int 0, .int 0, .int 0, .int 1]))) : Met l y_No_become (.code y_No_become b_No_become 5 none :: lw_g) { frames := 1, cells := 0, slots := 0, locals := 23 } (hP (kE D t G ak av) D vwCl G h [.ref nd, .ref rt, .int 0, .long wo]) (hQv D vwCl G (fun h' => kp [nd] h h' ∧ ∃ le : Int32, h' nd = some (.inr (1, [.int 1, .ref rt, .int 0, .long wo, .int le, .int 0, .int 0, .int 0, .int 0, .int 0, .int 1])))) 0 0 (fun q => G.size ≤ q) := by
  refine Met.ofW (cc := b_No_become) (maxL := 5) (ret := none) (by decide) rfl ?_
  intro p e s m args below meth c s₁ Bd hml hv
  obtain ⟨ha, hE, hH⟩ := hv
  have hx := Bd.exec
  have hb := Bd.bytes
  have hr := Bd.returns
  have hts : ∀ w ∈ lw_g, w.before args s = true := fun w hw => atoms_spec (ws := (.code y_No_become b_No_become 5 none :: lw_g)) Bd.pre w (List.mem_cons_of_mem _ hw)
  have hown : s.vm.findClass R_No = some m.cls := findClass_of_methodNamed Bd.named
  have hlocks := Bd.notSynchronized
  have hK := hE.1
  have hH0 := hH
  have hLo : hLc G.size [] := hLc_nil
  have hz : s.heap.size ≤ s.heap.size := Nat.le_refl _
  have hkp : kp [nd] h h := kp_rf
  have hl := lv_entry [.ref nd, .ref rt, .int 0, .long wo] (n := 5) (Nat.le_of_ble_eq_true rfl)
  rw [show entryFrame m args 5 = F0 m 0 ((lg_sl [.ref nd, .ref rt, .int 0, .long wo] ++ List.replicate (5 - (lg_sl [.ref nd, .ref rt, .int 0, .long wo]).length) Slot.unset).toArray) [] from (by rw [ha]; exact lg_entry_eq m [.ref nd, .ref rt, .int 0, .long wo] 5)]
  generalize (lg_sl [.ref nd, .ref rt, .int 0, .long wo] ++ List.replicate (5 - (lg_sl [.ref nd, .ref rt, .int 0, .long wo]).length) Slot.unset).toArray = ls at hl ⊢
  have hl : lv_has ls 5 [(0, .ref nd), (1, .ref rt), (2, .int 0), (3, .long wo)] := hl
  refine lv_aload_n hx hb d_No_become_0 rfl (lv_at hl 0 rfl) ?_
  refine lv_aload_n hx hb d_No_become_1 rfl (lv_at hl 1 rfl) ?_
  refine hm_put (ci := 1) (v := .ref rt) (ty := (.object "WriteOnceDisc$Node")) (C := R_No) (T := F_No) (N := 11) hx hb hts ig_No t_No tk_No nm_No hown hK hH hLo f_nd rfl 1 (by decide) (hts _ mw_12) (fun _ h9 => h9) rfl (by decide +kernel) rfl rfl (Nat.le_of_ble_eq_true rfl) d_No_become_2 (fun H1 locs hH z2 hLo => ?_)
  have hz : s.heap.size ≤ H1.size := by rw [z2]; exact hz
  obtain ⟨h3, e4⟩ : ∃ z, z = hu h nd (.inr (1, [.int 1, .ref rt, .int 1, .long 0, .int 0, .int 0, .int 0, .int 0, .int 0, .int 0, .int 1])) := ⟨_, rfl⟩
  have hH : hm D vwCl G h3 H1 := by rw [e4]; exact hH
  have f_nd : h3 nd = some (.inr (1, [.int 1, .ref rt, .int 1, .long 0, .int 0, .int 0, .int 0, .int 0, .int 0, .int 0, .int 1])) := by rw [e4]; exact hu_s _ _ _
  have hkp : kp [nd] h h3 := by rw [e4]; exact kp_put hkp (by simp)
  refine lv_aload_n hx hb d_No_become_5 rfl (lv_at hl 0 rfl) ?_
  refine lv_iload_n hx hb d_No_become_6 rfl (lv_at hl 2 rfl) ?_
  refine hm_put (ci := 1) (v := .int 0) (ty := .boolean) (C := R_No) (T := F_No) (N := 11) hx hb hts ig_No t_No tk_No nm_No hown hK hH hLo f_nd rfl 2 (by decide) (hts _ mw_13) (fun _ h9 => h9) rfl (by decide +kernel) (by decide) (by decide) (Nat.le_of_ble_eq_true rfl) d_No_become_7 (fun H5 locs hH z6 hLo => ?_)
  have hz : s.heap.size ≤ H5.size := by rw [z6]; exact hz
  obtain ⟨h7, e8⟩ : ∃ z, z = hu h3 nd (.inr (1, [.int 1, .ref rt, .int 0, .long 0, .int 0, .int 0, .int 0, .int 0, .int 0, .int 0, .int 1])) := ⟨_, rfl⟩
  have hH : hm D vwCl G h7 H5 := by rw [e8]; exact hH
  have f_nd : h7 nd = some (.inr (1, [.int 1, .ref rt, .int 0, .long 0, .int 0, .int 0, .int 0, .int 0, .int 0, .int 0, .int 1])) := by rw [e8]; exact hu_s _ _ _
  have hkp : kp [nd] h h7 := by rw [e8]; exact kp_put hkp (by simp)
  refine lv_aload_n hx hb d_No_become_10 rfl (lv_at hl 0 rfl) ?_
  refine lv_lload_n hx hb d_No_become_11 rfl (lv_at hl 3 rfl) ?_
  refine hm_callv (va_runV (As := [.long wo]) (b := nd) (rest := []) ⟨hx, hb, hml, hown, hts⟩ (c_Node_takeName l D t G ak av h7 nd rt 0 wo f_nd) ⟨cw9B 1 hts mw_278 mw_279 mw_40 rfl rfl (by decide +kernel) ⟨Nat.le_of_ble_eq_true rfl, Nat.le_of_ble_eq_true rfl⟩, hts _ mw_280, hts _ mw_281⟩ (hP_V (q := (R_No, F_No, 11)) kE_ok hE hK hH f_nd rfl) rfl rfl hl.1 rfl (lv_room (Nat.le_of_ble_eq_true rfl)) d_No_become_12 ⟨Nat.le_of_ble_eq_true rfl, Nat.le_of_ble_eq_true rfl⟩) hLo (fun h9 H10 locs hp12 hH z11 hLo => ?_)
  have hz : s.heap.size ≤ H10.size := Nat.le_trans hz z11
  obtain ⟨hk9, le, hn9⟩ := hp12
  have hkp : kp [nd] h h9 := kp_tr2 hkp hk9 (List.forall_mem_cons.mpr ⟨Or.inl (by simp), List.forall_mem_nil _⟩)
  have f_nd : h9 nd = some (.inr (1, [.int 1, .ref rt, .int 0, .long wo, .int le, .int 0, .int 0, .int 0, .int 0, .int 0, .int 1])) := hn9
  refine lv_aload_n hx hb d_No_become_15 rfl (lv_at hl 0 rfl) ?_
  refine lv_iconst (v := 0) hx hb d_No_become_16 (by decide) ?_
  refine lv_iconst (v := 0) hx hb d_No_become_17 (by decide) ?_
  refine hm_callv (va_runV (As := [.int 0, .int 0]) (b := nd) (rest := []) ⟨hx, hb, hml, hown, hts⟩ (c_Node_takeContent l D t G ak av h9 nd rt 0 le 0 0 wo f_nd) ⟨cw9B 2 hts mw_282 mw_283 mw_40 rfl rfl (by decide +kernel) ⟨Nat.le_of_ble_eq_true rfl, Nat.le_of_ble_eq_true rfl⟩, hts _ mw_284, hts _ mw_285⟩ (hP_V (q := (R_No, F_No, 11)) kE_ok hE hK hH f_nd rfl) rfl rfl hl.1 rfl (lv_room (Nat.le_of_ble_eq_true rfl)) d_No_become_18 ⟨Nat.le_of_ble_eq_true rfl, Nat.le_of_ble_eq_true rfl⟩) hLo (fun h13 H14 locs hp16 hH z15 hLo => ?_)
  have hz : s.heap.size ≤ H14.size := Nat.le_trans hz z15
  obtain ⟨hk9, hn9⟩ := hp16
  have hkp : kp [nd] h h13 := kp_tr2 hkp hk9 (List.forall_mem_cons.mpr ⟨Or.inl (by simp), List.forall_mem_nil _⟩)
  have f_nd : h13 nd = some (.inr (1, [.int 1, .ref rt, .int 0, .long wo, .int le, .int 0, .int 0, .int 0, .int 0, .int 0, .int 1])) := hn9
  exact W.vret hx hb hr (fun t9 ht hW => ⟨h13, rfl, ⟨hkp, le, f_nd⟩, by rw [ht]; exact hH, by rw [ht]; exact hz⟩) hLo d_No_become_21
end
section
set_option maxRecDepth 100000 in
theorem mw_286 : Cond.code y_Me_takesDefect b_Me_takesDefect 2 (some .boolean) ∈ lw_g := lw_gin (List.mem_append_right _ (List.mem_of_getElem? (i := 271) rfl)) (by decide +kernel)
set_option maxRecDepth 100000 in
theorem mw_287 : Cond.methodLink R_Di 56 y_Me_takesDefect ∈ lw_g := lw_gin (List.mem_append_right _ (List.mem_of_getElem? (i := 268) rfl)) (by decide +kernel)
set_option maxRecDepth 100000 in
theorem mw_288 : Cond.instanceMethod y_Me_takesDefect ∈ lw_g := lw_gin (List.mem_append_right _ (List.mem_of_getElem? (i := 269) rfl)) (by decide +kernel)
set_option maxRecDepth 100000 in
theorem mw_289 : Cond.selects R_Me y_Me_takesDefect y_Me_takesDefect ∈ lw_g := lw_gin (List.mem_append_right _ (List.mem_of_getElem? (i := 270) rfl)) (by decide +kernel)
set_option maxRecDepth 100000 in
theorem mw_290 : Cond.fieldLink R_Di 60 "WriteOnceDisc$Writer" "supply" "LWriteOnceDisc$Power;" ∈ lw_g := lw_gin (List.mem_append_right _ (List.mem_of_getElem? (i := 69) rfl)) (by decide +kernel)
set_option maxRecDepth 100000 in
theorem mw_291 : Cond.fieldLink R_Di 64 "WriteOnceDisc$Power" "left" "I" ∈ lw_g := lw_gin (List.mem_append_right _ (List.mem_of_getElem? (i := 43) rfl)) (by decide +kernel)
set_option maxRecDepth 100000 in
theorem mw_292 : Cond.fieldLink R_Di 195 "WriteOnceDisc$Power" "spent" "I" ∈ lw_g := lw_gin (List.mem_append_right _ (List.mem_of_getElem? (i := 47) rfl)) (by decide +kernel)
set_option maxRecDepth 100000 in
theorem mw_293 : Cond.methodLink R_Di 180 y_Me_has ∈ lw_g := lw_gin (List.mem_append_right _ (List.mem_of_getElem? (i := 768) rfl)) (by decide +kernel)
set_option maxRecDepth 100000 in
theorem mw_294 : Cond.fieldLink R_Di 166 "WriteOnceDisc$Medium" "sectors" "[LWriteOnceDisc$Sector;" ∈ lw_g := lw_gin (List.mem_append_right _ (List.mem_of_getElem? (i := 227) rfl)) (by decide +kernel)
set_option maxRecDepth 100000 in
theorem mw_295 : Cond.fieldLink R_Di 183 "WriteOnceDisc$Sector" "condition" "I" ∈ lw_g := lw_gin (List.mem_append_right _ (List.mem_of_getElem? (i := 212) rfl)) (by decide +kernel)
set_option maxRecDepth 100000 in
theorem mw_296 : Cond.code y_Me_fetch b_Me_fetch 4 (some .int) ∈ lw_g := lw_gin (List.mem_append_right _ (List.mem_of_getElem? (i := 618) rfl)) (by decide +kernel)
set_option maxRecDepth 100000 in
theorem mw_297 : Cond.methodLink R_Di 188 y_Me_fetch ∈ lw_g := lw_gin (List.mem_append_right _ (List.mem_of_getElem? (i := 773) rfl)) (by decide +kernel)
set_option maxRecDepth 100000 in
theorem mw_298 : Cond.instanceMethod y_Me_fetch ∈ lw_g := lw_gin (List.mem_append_right _ (List.mem_of_getElem? (i := 616) rfl)) (by decide +kernel)
set_option maxRecDepth 100000 in
theorem mw_299 : Cond.selects R_Me y_Me_fetch y_Me_fetch ∈ lw_g := lw_gin (List.mem_append_right _ (List.mem_of_getElem? (i := 617) rfl)) (by decide +kernel)
set_option maxRecDepth 100000 in
theorem mw_300 : Cond.methodLink R_Me 65 y_Me_fetch ∈ lw_g := lw_gin (List.mem_append_right _ (List.mem_of_getElem? (i := 615) rfl)) (by decide +kernel)
set_option maxRecDepth 100000 in
theorem mw_301 : Cond.code y_Me_isWritten b_Me_isWritten 2 (some .boolean) ∈ lw_g := lw_gin (List.mem_append_right _ (List.mem_of_getElem? (i := 417) rfl)) (by decide +kernel)
set_option maxRecDepth 100000 in
theorem mw_302 : Cond.methodLink R_Me 56 y_Me_isWritten ∈ lw_g := lw_gin (List.mem_append_right _ (List.mem_of_getElem? (i := 414) rfl)) (by decide +kernel)
set_option maxRecDepth 100000 in
theorem mw_303 : Cond.instanceMethod y_Me_isWritten ∈ lw_g := lw_gin (List.mem_append_right _ (List.mem_of_getElem? (i := 415) rfl)) (by decide +kernel)
set_option maxRecDepth 100000 in
theorem mw_304 : Cond.selects R_Me y_Me_isWritten y_Me_isWritten ∈ lw_g := lw_gin (List.mem_append_right _ (List.mem_of_getElem? (i := 416) rfl)) (by decide +kernel)
set_option maxRecDepth 100000 in
theorem mw_305 : Cond.code y_Me_change b_Me_change 5 (some .int) ∈ lw_g := lw_gin (List.mem_append_right _ (List.mem_of_getElem? (i := 781) rfl)) (by decide +kernel)
set_option maxRecDepth 100000 in
theorem mw_306 : Cond.methodLink R_Di 191 y_Me_change ∈ lw_g := lw_gin (List.mem_append_right _ (List.mem_of_getElem? (i := 778) rfl)) (by decide +kernel)
set_option maxRecDepth 100000 in
theorem mw_307 : Cond.instanceMethod y_Me_change ∈ lw_g := lw_gin (List.mem_append_right _ (List.mem_of_getElem? (i := 779) rfl)) (by decide +kernel)
set_option maxRecDepth 100000 in
theorem mw_308 : Cond.selects R_Me y_Me_change y_Me_change ∈ lw_g := lw_gin (List.mem_append_right _ (List.mem_of_getElem? (i := 780) rfl)) (by decide +kernel)
set_option maxRecDepth 100000 in
theorem mw_309 : Cond.code y_Me_sectorOfMark b_Me_sectorOfMark 4 (some .int) ∈ lw_g := lw_gin (List.mem_append_right _ (List.mem_of_getElem? (i := 793) rfl)) (by decide +kernel)
set_option maxRecDepth 100000 in
theorem mw_310 : Cond.methodLink R_Di 198 y_Me_sectorOfMark ∈ lw_g := lw_gin (List.mem_append_right _ (List.mem_of_getElem? (i := 790) rfl)) (by decide +kernel)
set_option maxRecDepth 100000 in
theorem mw_311 : Cond.instanceMethod y_Me_sectorOfMark ∈ lw_g := lw_gin (List.mem_append_right _ (List.mem_of_getElem? (i := 791) rfl)) (by decide +kernel)
set_option maxRecDepth 100000 in
theorem mw_312 : Cond.selects R_Me y_Me_sectorOfMark y_Me_sectorOfMark ∈ lw_g := lw_gin (List.mem_append_right _ (List.mem_of_getElem? (i := 792) rfl)) (by decide +kernel)
set_option maxRecDepth 100000 in
theorem mw_313 : Cond.constant R_Di 204 (-1000000) ∈ lw_g := lw_gin (List.mem_append_right _ (List.mem_of_getElem? (i := 795) rfl)) (by decide +kernel)
set_option maxRecDepth 100000 in
theorem mw_314 : Cond.fieldLink R_Di 69 "WriteOnceDisc$Power" "isLost" "Z" ∈ lw_g := lw_gin (List.mem_append_right _ (List.mem_of_getElem? (i := 45) rfl)) (by decide +kernel)
set_option maxRecDepth 100000 in
theorem mw_315 : Cond.methodLink R_Di 90 y_Ns_nodeOf ∈ lw_g := lw_gin (List.mem_append_right _ (List.mem_of_getElem? (i := 333) rfl)) (by decide +kernel)
set_option maxRecDepth 100000 in
theorem mw_316 : Cond.fieldLink R_Di 97 "WriteOnceDisc$Node" "isDirectory" "Z" ∈ lw_g := lw_gin (List.mem_append_right _ (List.mem_of_getElem? (i := 101) rfl)) (by decide +kernel)
set_option maxRecDepth 100000 in
theorem mw_317 : Cond.fieldLink R_Di 100 "WriteOnceDisc$Node" "parent" "LWriteOnceDisc$Node;" ∈ lw_g := lw_gin (List.mem_append_right _ (List.mem_of_getElem? (i := 96) rfl)) (by decide +kernel)
set_option maxRecDepth 100000 in
theorem mw_318 : Cond.code y_Ns_directoryOf b_Ns_directoryOf 3 (some (.object "WriteOnceDisc$Node")) ∈ lw_g := lw_gin (List.mem_append_right _ (List.mem_of_getElem? (i := 287) rfl)) (by decide +kernel)
set_option maxRecDepth 100000 in
theorem mw_319 : Cond.methodLink R_Di 72 y_Ns_directoryOf ∈ lw_g := lw_gin (List.mem_append_right _ (List.mem_of_getElem? (i := 284) rfl)) (by decide +kernel)
set_option maxRecDepth 100000 in
theorem mw_320 : Cond.instanceMethod y_Ns_directoryOf ∈ lw_g := lw_gin (List.mem_append_right _ (List.mem_of_getElem? (i := 285) rfl)) (by decide +kernel)
set_option maxRecDepth 100000 in
theorem mw_321 : Cond.selects R_Ns y_Ns_directoryOf y_Ns_directoryOf ∈ lw_g := lw_gin (List.mem_append_right _ (List.mem_of_getElem? (i := 286) rfl)) (by decide +kernel)
set_option maxRecDepth 100000 in
theorem mw_322 : Cond.code y_Di_nameIn b_Di_nameIn 6 (some .long) ∈ lw_g := lw_gin (List.mem_append_right _ (List.mem_of_getElem? (i := 302) rfl)) (by decide +kernel)
set_option maxRecDepth 100000 in
theorem mw_323 : Cond.methodLink R_Di 112 y_Di_nameIn ∈ lw_g := lw_gin (List.mem_append_right _ (List.mem_of_getElem? (i := 300) rfl)) (by decide +kernel)
set_option maxRecDepth 100000 in
theorem mw_324 : Cond.static y_Di_nameIn ∈ lw_g := lw_gin (List.mem_append_right _ (List.mem_of_getElem? (i := 301) rfl)) (by decide +kernel)
theorem d_Me_takesDefect_0 : decode b_Me_takesDefect 0 = .ok (.aload_n 0, 1) := by decide +kernel
theorem d_Me_takesDefect_1 : decode b_Me_takesDefect 1 = .ok (.iload_n 1, 1) := by decide +kernel
theorem d_Me_takesDefect_2 : decode b_Me_takesDefect 2 = .ok (.invokevirtual 28, 3) := by decide +kernel
theorem d_Me_takesDefect_5 : decode b_Me_takesDefect 5 = .ok (.ifCond .ne 5, 3) := by decide +kernel
theorem d_Me_takesDefect_10 : decode b_Me_takesDefect 10 = .ok (.aload_n 0, 1) := by decide +kernel
theorem d_Me_takesDefect_11 : decode b_Me_takesDefect 11 = .ok (.getfield 17, 3) := by decide +kernel
theorem d_Me_takesDefect_14 : decode b_Me_takesDefect 14 = .ok (.iload_n 1, 1) := by decide +kernel
theorem d_Me_takesDefect_15 : decode b_Me_takesDefect 15 = .ok (.aaload, 1) := by decide +kernel
theorem d_Me_takesDefect_16 : decode b_Me_takesDefect 16 = .ok (.getfield 25, 3) := by decide +kernel
theorem d_Me_takesDefect_19 : decode b_Me_takesDefect 19 = .ok (.ifCond .ne 13, 3) := by decide +kernel
theorem d_Me_takesDefect_22 : decode b_Me_takesDefect 22 = .ok (.aload_n 0, 1) := by decide +kernel
theorem d_Me_takesDefect_23 : decode b_Me_takesDefect 23 = .ok (.getfield 17, 3) := by decide +kernel
theorem d_Me_takesDefect_26 : decode b_Me_takesDefect 26 = .ok (.iload_n 1, 1) := by decide +kernel
theorem d_Me_takesDefect_27 : decode b_Me_takesDefect 27 = .ok (.aaload, 1) := by decide +kernel
theorem d_Me_takesDefect_28 : decode b_Me_takesDefect 28 = .ok (.iconst 1, 1) := by decide +kernel
theorem d_Me_takesDefect_29 : decode b_Me_takesDefect 29 = .ok (.putfield 32, 3) := by decide +kernel
theorem d_Me_takesDefect_32 : decode b_Me_takesDefect 32 = .ok (.iconst 1, 1) := by decide +kernel
theorem d_Me_takesDefect_33 : decode b_Me_takesDefect 33 = .ok (.ireturn, 1) := by decide +kernel
theorem d_Me_takesDefect_8 : decode b_Me_takesDefect 8 = .ok (.iconst 0, 1) := by decide +kernel
theorem d_Me_takesDefect_9 : decode b_Me_takesDefect 9 = .ok (.ireturn, 1) := by decide +kernel
theorem d_Di_defect_0 : decode b_Di_defect 0 = .ok (.aload_n 0, 1) := by decide +kernel
theorem d_Di_defect_1 : decode b_Di_defect 1 = .ok (.getfield 53, 3) := by decide +kernel
theorem d_Di_defect_4 : decode b_Di_defect 4 = .ok (.iload_n 1, 1) := by decide +kernel
theorem d_Di_defect_5 : decode b_Di_defect 5 = .ok (.invokevirtual 56, 3) := by decide +kernel
theorem d_Di_defect_8 : decode b_Di_defect 8 = .ok (.ireturn, 1) := by decide +kernel
theorem d_Di_power_0 : decode b_Di_power 0 = .ok (.aload_n 0, 1) := by decide +kernel
theorem d_Di_power_1 : decode b_Di_power 1 = .ok (.getfield 10, 3) := by decide +kernel
theorem d_Di_power_4 : decode b_Di_power 4 = .ok (.getfield 60, 3) := by decide +kernel
theorem d_Di_power_7 : decode b_Di_power 7 = .ok (.iload_n 1, 1) := by decide +kernel
theorem d_Di_power_8 : decode b_Di_power 8 = .ok (.ifCond .ge 7, 3) := by decide +kernel
theorem d_Di_power_15 : decode b_Di_power 15 = .ok (.iload_n 1, 1) := by decide +kernel
theorem d_Di_power_16 : decode b_Di_power 16 = .ok (.putfield 64, 3) := by decide +kernel
theorem d_Di_power_19 : decode b_Di_power 19 = .ok (.return_, 1) := by decide +kernel
theorem d_Di_power_11 : decode b_Di_power 11 = .ok (.iconst (-1), 1) := by decide +kernel
theorem d_Di_power_12 : decode b_Di_power 12 = .ok (.goto 4, 3) := by decide +kernel
theorem d_Di_writes_0 : decode b_Di_writes 0 = .ok (.aload_n 0, 1) := by decide +kernel
theorem d_Di_writes_1 : decode b_Di_writes 1 = .ok (.getfield 10, 3) := by decide +kernel
theorem d_Di_writes_4 : decode b_Di_writes 4 = .ok (.getfield 60, 3) := by decide +kernel
theorem d_Di_writes_7 : decode b_Di_writes 7 = .ok (.getfield 195, 3) := by decide +kernel
theorem d_Di_writes_10 : decode b_Di_writes 10 = .ok (.ireturn, 1) := by decide +kernel
theorem d_Di_state_0 : decode b_Di_state 0 = .ok (.aload_n 0, 1) := by decide +kernel
theorem d_Di_state_1 : decode b_Di_state 1 = .ok (.getfield 53, 3) := by decide +kernel
theorem d_Di_state_4 : decode b_Di_state 4 = .ok (.iload_n 1, 1) := by decide +kernel
theorem d_Di_state_5 : decode b_Di_state 5 = .ok (.invokevirtual 180, 3) := by decide +kernel
theorem d_Di_state_8 : decode b_Di_state 8 = .ok (.ifCond .eq 18, 3) := by decide +kernel
theorem d_Di_state_11 : decode b_Di_state 11 = .ok (.aload_n 0, 1) := by decide +kernel
theorem d_Di_state_12 : decode b_Di_state 12 = .ok (.getfield 53, 3) := by decide +kernel
theorem d_Di_state_15 : decode b_Di_state 15 = .ok (.getfield 166, 3) := by decide +kernel
theorem d_Di_state_18 : decode b_Di_state 18 = .ok (.iload_n 1, 1) := by decide +kernel
theorem d_Di_state_19 : decode b_Di_state 19 = .ok (.aaload, 1) := by decide +kernel
theorem d_Di_state_20 : decode b_Di_state 20 = .ok (.getfield 183, 3) := by decide +kernel
theorem d_Di_state_23 : decode b_Di_state 23 = .ok (.goto 4, 3) := by decide +kernel
theorem d_Di_state_27 : decode b_Di_state 27 = .ok (.ireturn, 1) := by decide +kernel
theorem d_Di_state_26 : decode b_Di_state 26 = .ok (.iconst (-1), 1) := by decide +kernel
theorem d_Me_fetch_0 : decode b_Me_fetch 0 = .ok (.iload_n 1, 1) := by decide +kernel
theorem d_Me_fetch_1 : decode b_Me_fetch 1 = .ok (.sipush 2048, 3) := by decide +kernel
theorem d_Me_fetch_4 : decode b_Me_fetch 4 = .ok (.idiv, 1) := by decide +kernel
theorem d_Me_fetch_5 : decode b_Me_fetch 5 = .ok (.istore_n 2, 1) := by decide +kernel
theorem d_Me_fetch_6 : decode b_Me_fetch 6 = .ok (.iload_n 1, 1) := by decide +kernel
theorem d_Me_fetch_7 : decode b_Me_fetch 7 = .ok (.ifCond .lt 12, 3) := by decide +kernel
theorem d_Me_fetch_19 : decode b_Me_fetch 19 = .ok (.iconst (-1), 1) := by decide +kernel
theorem d_Me_fetch_20 : decode b_Me_fetch 20 = .ok (.ireturn, 1) := by decide +kernel
theorem d_Me_fetch_10 : decode b_Me_fetch 10 = .ok (.iload_n 2, 1) := by decide +kernel
theorem d_Me_fetch_11 : decode b_Me_fetch 11 = .ok (.aload_n 0, 1) := by decide +kernel
theorem d_Me_fetch_12 : decode b_Me_fetch 12 = .ok (.getfield 17, 3) := by decide +kernel
theorem d_Me_fetch_15 : decode b_Me_fetch 15 = .ok (.arraylength, 1) := by decide +kernel
theorem d_Me_fetch_16 : decode b_Me_fetch 16 = .ok (.if_icmp .lt 5, 3) := by decide +kernel
theorem d_Me_fetch_21 : decode b_Me_fetch 21 = .ok (.aload_n 0, 1) := by decide +kernel
theorem d_Me_fetch_22 : decode b_Me_fetch 22 = .ok (.getfield 17, 3) := by decide +kernel
theorem d_Me_fetch_25 : decode b_Me_fetch 25 = .ok (.iload_n 2, 1) := by decide +kernel
theorem d_Me_fetch_26 : decode b_Me_fetch 26 = .ok (.aaload, 1) := by decide +kernel
theorem d_Me_fetch_27 : decode b_Me_fetch 27 = .ok (.astore_n 3, 1) := by decide +kernel
theorem d_Me_fetch_28 : decode b_Me_fetch 28 = .ok (.aload_n 3, 1) := by decide +kernel
theorem d_Me_fetch_29 : decode b_Me_fetch 29 = .ok (.getfield 25, 3) := by decide +kernel
theorem d_Me_fetch_32 : decode b_Me_fetch 32 = .ok (.iconst 1, 1) := by decide +kernel
theorem d_Me_fetch_33 : decode b_Me_fetch 33 = .ok (.if_icmp .ne 27, 3) := by decide +kernel
theorem d_Me_fetch_60 : decode b_Me_fetch 60 = .ok (.iconst 0, 1) := by decide +kernel
theorem d_Me_fetch_61 : decode b_Me_fetch 61 = .ok (.ireturn, 1) := by decide +kernel
theorem d_Di_byteAt_0 : decode b_Di_byteAt 0 = .ok (.aload_n 0, 1) := by decide +kernel
theorem d_Di_byteAt_1 : decode b_Di_byteAt 1 = .ok (.getfield 53, 3) := by decide +kernel
theorem d_Di_byteAt_4 : decode b_Di_byteAt 4 = .ok (.iload_n 1, 1) := by decide +kernel
theorem d_Di_byteAt_5 : decode b_Di_byteAt 5 = .ok (.invokevirtual 188, 3) := by decide +kernel
theorem d_Di_byteAt_8 : decode b_Di_byteAt 8 = .ok (.ireturn, 1) := by decide +kernel
theorem d_Me_isWritten_0 : decode b_Me_isWritten 0 = .ok (.iload_n 1, 1) := by decide +kernel
theorem d_Me_isWritten_1 : decode b_Me_isWritten 1 = .ok (.ifCond .lt 29, 3) := by decide +kernel
theorem d_Me_isWritten_30 : decode b_Me_isWritten 30 = .ok (.iconst 0, 1) := by decide +kernel
theorem d_Me_isWritten_31 : decode b_Me_isWritten 31 = .ok (.ireturn, 1) := by decide +kernel
theorem d_Me_isWritten_4 : decode b_Me_isWritten 4 = .ok (.iload_n 1, 1) := by decide +kernel
theorem d_Me_isWritten_5 : decode b_Me_isWritten 5 = .ok (.aload_n 0, 1) := by decide +kernel
theorem d_Me_isWritten_6 : decode b_Me_isWritten 6 = .ok (.getfield 17, 3) := by decide +kernel
theorem d_Me_isWritten_9 : decode b_Me_isWritten 9 = .ok (.arraylength, 1) := by decide +kernel
theorem d_Me_isWritten_10 : decode b_Me_isWritten 10 = .ok (.if_icmp .ge 20, 3) := by decide +kernel
theorem d_Me_isWritten_13 : decode b_Me_isWritten 13 = .ok (.aload_n 0, 1) := by decide +kernel
theorem d_Me_isWritten_14 : decode b_Me_isWritten 14 = .ok (.getfield 17, 3) := by decide +kernel
theorem d_Me_isWritten_17 : decode b_Me_isWritten 17 = .ok (.iload_n 1, 1) := by decide +kernel
theorem d_Me_isWritten_18 : decode b_Me_isWritten 18 = .ok (.aaload, 1) := by decide +kernel
theorem d_Me_isWritten_19 : decode b_Me_isWritten 19 = .ok (.getfield 25, 3) := by decide +kernel
theorem d_Me_isWritten_22 : decode b_Me_isWritten 22 = .ok (.iconst 1, 1) := by decide +kernel
theorem d_Me_isWritten_23 : decode b_Me_isWritten 23 = .ok (.if_icmp .ne 7, 3) := by decide +kernel
theorem d_Me_change_0 : decode b_Me_change 0 = .ok (.aload_n 0, 1) := by decide +kernel
theorem d_Me_change_1 : decode b_Me_change 1 = .ok (.iload_n 1, 1) := by decide +kernel
theorem d_Me_change_2 : decode b_Me_change 2 = .ok (.invokevirtual 65, 3) := by decide +kernel
theorem d_Me_change_5 : decode b_Me_change 5 = .ok (.istore_n 3, 1) := by decide +kernel
theorem d_Me_change_6 : decode b_Me_change 6 = .ok (.iload_n 1, 1) := by decide +kernel
theorem d_Me_change_7 : decode b_Me_change 7 = .ok (.sipush 2048, 3) := by decide +kernel
theorem d_Me_change_10 : decode b_Me_change 10 = .ok (.idiv, 1) := by decide +kernel
theorem d_Me_change_11 : decode b_Me_change 11 = .ok (.istore 4, 2) := by decide +kernel
theorem d_Me_change_13 : decode b_Me_change 13 = .ok (.iload_n 3, 1) := by decide +kernel
theorem d_Me_change_14 : decode b_Me_change 14 = .ok (.iconst (-1), 1) := by decide +kernel
theorem d_Me_change_15 : decode b_Me_change 15 = .ok (.if_icmp .eq 25, 3) := by decide +kernel
theorem d_Me_change_40 : decode b_Me_change 40 = .ok (.iconst (-1), 1) := by decide +kernel
theorem d_Me_change_41 : decode b_Me_change 41 = .ok (.ireturn, 1) := by decide +kernel
theorem d_Me_change_18 : decode b_Me_change 18 = .ok (.aload_n 0, 1) := by decide +kernel
theorem d_Me_change_19 : decode b_Me_change 19 = .ok (.iload 4, 2) := by decide +kernel
theorem d_Me_change_21 : decode b_Me_change 21 = .ok (.invokevirtual 56, 3) := by decide +kernel
theorem d_Me_change_24 : decode b_Me_change 24 = .ok (.ifCond .eq 16, 3) := by decide +kernel
theorem d_Di_spoil_0 : decode b_Di_spoil 0 = .ok (.aload_n 0, 1) := by decide +kernel
theorem d_Di_spoil_1 : decode b_Di_spoil 1 = .ok (.getfield 53, 3) := by decide +kernel
theorem d_Di_spoil_4 : decode b_Di_spoil 4 = .ok (.iload_n 1, 1) := by decide +kernel
theorem d_Di_spoil_5 : decode b_Di_spoil 5 = .ok (.iload_n 2, 1) := by decide +kernel
theorem d_Di_spoil_6 : decode b_Di_spoil 6 = .ok (.invokevirtual 191, 3) := by decide +kernel
theorem d_Di_spoil_9 : decode b_Di_spoil 9 = .ok (.ireturn, 1) := by decide +kernel
theorem d_Me_sectorOfMark_0 : decode b_Me_sectorOfMark 0 = .ok (.iconst 0, 1) := by decide +kernel
theorem d_Me_sectorOfMark_1 : decode b_Me_sectorOfMark 1 = .ok (.istore_n 2, 1) := by decide +kernel
theorem d_Me_sectorOfMark_2 : decode b_Me_sectorOfMark 2 = .ok (.iconst 0, 1) := by decide +kernel
theorem d_Me_sectorOfMark_3 : decode b_Me_sectorOfMark 3 = .ok (.istore_n 3, 1) := by decide +kernel
theorem d_Me_sectorOfMark_4 : decode b_Me_sectorOfMark 4 = .ok (.iload_n 3, 1) := by decide +kernel
theorem d_Me_sectorOfMark_5 : decode b_Me_sectorOfMark 5 = .ok (.aload_n 0, 1) := by decide +kernel
theorem d_Me_sectorOfMark_6 : decode b_Me_sectorOfMark 6 = .ok (.getfield 9, 3) := by decide +kernel
theorem d_Me_sectorOfMark_9 : decode b_Me_sectorOfMark 9 = .ok (.if_icmp .ge 27, 3) := by decide +kernel
theorem d_Me_sectorOfMark_36 : decode b_Me_sectorOfMark 36 = .ok (.iconst (-1), 1) := by decide +kernel
theorem d_Me_sectorOfMark_37 : decode b_Me_sectorOfMark 37 = .ok (.ireturn, 1) := by decide +kernel
theorem d_Di_open_0 : decode b_Di_open 0 = .ok (.aload_n 0, 1) := by decide +kernel
theorem d_Di_open_1 : decode b_Di_open 1 = .ok (.getfield 53, 3) := by decide +kernel
theorem d_Di_open_4 : decode b_Di_open 4 = .ok (.iload_n 1, 1) := by decide +kernel
theorem d_Di_open_5 : decode b_Di_open 5 = .ok (.invokevirtual 198, 3) := by decide +kernel
theorem d_Di_open_8 : decode b_Di_open 8 = .ok (.istore_n 2, 1) := by decide +kernel
theorem d_Di_open_9 : decode b_Di_open 9 = .ok (.iload_n 2, 1) := by decide +kernel
theorem d_Di_open_10 : decode b_Di_open 10 = .ok (.iconst (-1), 1) := by decide +kernel
theorem d_Di_open_11 : decode b_Di_open 11 = .ok (.if_icmp .ne 6, 3) := by decide +kernel
theorem d_Di_open_14 : decode b_Di_open 14 = .ok (.ldc 204, 2) := by decide +kernel
theorem d_Di_open_16 : decode b_Di_open 16 = .ok (.ireturn, 1) := by decide +kernel
theorem d_Di_replace_0 : decode b_Di_replace 0 = .ok (.aload_n 0, 1) := by decide +kernel
theorem d_Di_replace_1 : decode b_Di_replace 1 = .ok (.getfield 10, 3) := by decide +kernel
theorem d_Di_replace_4 : decode b_Di_replace 4 = .ok (.getfield 60, 3) := by decide +kernel
theorem d_Di_replace_7 : decode b_Di_replace 7 = .ok (.getfield 69, 3) := by decide +kernel
theorem d_Di_replace_10 : decode b_Di_replace 10 = .ok (.ifCond .eq 6, 3) := by decide +kernel
theorem d_Di_replace_16 : decode b_Di_replace 16 = .ok (.aload_n 0, 1) := by decide +kernel
theorem d_Di_replace_17 : decode b_Di_replace 17 = .ok (.getfield 26, 3) := by decide +kernel
theorem d_Di_replace_20 : decode b_Di_replace 20 = .ok (.iload_n 1, 1) := by decide +kernel
theorem d_Di_replace_21 : decode b_Di_replace 21 = .ok (.invokevirtual 90, 3) := by decide +kernel
theorem d_Di_replace_24 : decode b_Di_replace 24 = .ok (.astore 4, 2) := by decide +kernel
theorem d_Di_replace_26 : decode b_Di_replace 26 = .ok (.aload 4, 2) := by decide +kernel
theorem d_Di_replace_28 : decode b_Di_replace 28 = .ok (.ifnull 19, 3) := by decide +kernel
theorem d_Di_replace_31 : decode b_Di_replace 31 = .ok (.aload 4, 2) := by decide +kernel
theorem d_Di_replace_33 : decode b_Di_replace 33 = .ok (.getfield 97, 3) := by decide +kernel
theorem d_Di_replace_36 : decode b_Di_replace 36 = .ok (.ifCond .ne 11, 3) := by decide +kernel
theorem d_Di_replace_47 : decode b_Di_replace 47 = .ok (.bipush (-2), 2) := by decide +kernel
theorem d_Di_replace_49 : decode b_Di_replace 49 = .ok (.ireturn, 1) := by decide +kernel
theorem d_Di_remove_0 : decode b_Di_remove 0 = .ok (.aload_n 0, 1) := by decide +kernel
theorem d_Di_remove_1 : decode b_Di_remove 1 = .ok (.getfield 10, 3) := by decide +kernel
theorem d_Di_remove_4 : decode b_Di_remove 4 = .ok (.getfield 60, 3) := by decide +kernel
theorem d_Di_remove_7 : decode b_Di_remove 7 = .ok (.getfield 69, 3) := by decide +kernel
theorem d_Di_remove_10 : decode b_Di_remove 10 = .ok (.ifCond .eq 6, 3) := by decide +kernel
theorem d_Di_remove_16 : decode b_Di_remove 16 = .ok (.aload_n 0, 1) := by decide +kernel
theorem d_Di_remove_17 : decode b_Di_remove 17 = .ok (.getfield 26, 3) := by decide +kernel
theorem d_Di_remove_20 : decode b_Di_remove 20 = .ok (.iload_n 1, 1) := by decide +kernel
theorem d_Di_remove_21 : decode b_Di_remove 21 = .ok (.invokevirtual 90, 3) := by decide +kernel
theorem d_Di_remove_24 : decode b_Di_remove 24 = .ok (.astore_n 2, 1) := by decide +kernel
theorem d_Di_remove_25 : decode b_Di_remove 25 = .ok (.aload_n 2, 1) := by decide +kernel
theorem d_Di_remove_26 : decode b_Di_remove 26 = .ok (.ifnull 21, 3) := by decide +kernel
theorem d_Di_remove_29 : decode b_Di_remove 29 = .ok (.aload_n 2, 1) := by decide +kernel
theorem d_Di_remove_30 : decode b_Di_remove 30 = .ok (.getfield 100, 3) := by decide +kernel
theorem d_Di_remove_33 : decode b_Di_remove 33 = .ok (.ifnull 14, 3) := by decide +kernel
theorem d_Di_remove_47 : decode b_Di_remove 47 = .ok (.bipush (-2), 2) := by decide +kernel
theorem d_Di_remove_49 : decode b_Di_remove 49 = .ok (.ireturn, 1) := by decide +kernel
theorem d_Di_rename_0 : decode b_Di_rename 0 = .ok (.aload_n 0, 1) := by decide +kernel
theorem d_Di_rename_1 : decode b_Di_rename 1 = .ok (.getfield 10, 3) := by decide +kernel
theorem d_Di_rename_4 : decode b_Di_rename 4 = .ok (.getfield 60, 3) := by decide +kernel
theorem d_Di_rename_7 : decode b_Di_rename 7 = .ok (.getfield 69, 3) := by decide +kernel
theorem d_Di_rename_10 : decode b_Di_rename 10 = .ok (.ifCond .eq 6, 3) := by decide +kernel
theorem d_Di_rename_16 : decode b_Di_rename 16 = .ok (.aload_n 0, 1) := by decide +kernel
theorem d_Di_rename_17 : decode b_Di_rename 17 = .ok (.getfield 26, 3) := by decide +kernel
theorem d_Di_rename_20 : decode b_Di_rename 20 = .ok (.iload_n 1, 1) := by decide +kernel
theorem d_Di_rename_21 : decode b_Di_rename 21 = .ok (.invokevirtual 90, 3) := by decide +kernel
theorem d_Di_rename_24 : decode b_Di_rename 24 = .ok (.astore 5, 2) := by decide +kernel
theorem d_Di_rename_26 : decode b_Di_rename 26 = .ok (.aload_n 0, 1) := by decide +kernel
theorem d_Di_rename_27 : decode b_Di_rename 27 = .ok (.getfield 26, 3) := by decide +kernel
theorem d_Di_rename_30 : decode b_Di_rename 30 = .ok (.iload_n 2, 1) := by decide +kernel
theorem d_Di_rename_31 : decode b_Di_rename 31 = .ok (.invokevirtual 72, 3) := by decide +kernel
theorem d_Di_rename_34 : decode b_Di_rename 34 = .ok (.astore 6, 2) := by decide +kernel
theorem d_Di_rename_36 : decode b_Di_rename 36 = .ok (.lload_n 3, 1) := by decide +kernel
theorem d_Di_rename_37 : decode b_Di_rename 37 = .ok (.invokestatic 112, 3) := by decide +kernel
theorem d_Di_rename_40 : decode b_Di_rename 40 = .ok (.lstore 7, 2) := by decide +kernel
theorem d_Di_rename_42 : decode b_Di_rename 42 = .ok (.aload 5, 2) := by decide +kernel
theorem d_Di_rename_44 : decode b_Di_rename 44 = .ok (.ifnull 23, 3) := by decide +kernel
theorem d_Di_rename_47 : decode b_Di_rename 47 = .ok (.aload 5, 2) := by decide +kernel
theorem d_Di_rename_49 : decode b_Di_rename 49 = .ok (.getfield 100, 3) := by decide +kernel
theorem d_Di_rename_52 : decode b_Di_rename 52 = .ok (.ifnull 15, 3) := by decide +kernel
theorem d_Di_rename_67 : decode b_Di_rename 67 = .ok (.bipush (-2), 2) := by decide +kernel
theorem d_Di_rename_69 : decode b_Di_rename 69 = .ok (.ireturn, 1) := by decide +kernel
theorem bool9 {r : Int32} {P Q : Prop} (h : (r = 1 ∧ P) ∨ (r = 0 ∧ Q)) : narrow .boolean (.int r) = .int r := by
  rcases h with ⟨rfl, -⟩ | ⟨rfl, -⟩ <;> decide
/-- a byte of a blank medium -/
def bytV (n : Nat) (a : Int32) : Int32 := if a < 0 then -1 else if a / 2048 < nI n then 0 else -1
theorem div9 {a : Int32} {n : Nat} (h0 : ¬ a < 0) (h1 : a / 2048 < nI n) (hn : n ≤ 200) : ∃ j, j < n ∧ a / 2048 = nI j := by
  obtain ⟨q, hq, rfl⟩ := nI_of h0
  have e : nI q / 2048 = nI (q / 2048) := pk_div hq (by decide) (by decide)
  rw [e] at h1 ⊢
  exact ⟨q / 2048, (nI_ltI (by omega) (by omega)).mp h1, rfl⟩

set_option maxHeartbeats 4000000 in
set_option maxRecDepth 100000 in
theorem c_Medium_takes (l : Launch) (D : va_G) (t : Nat → ClassId) (G : Heap) (ak av : Nat → Nat) (h : hM) (md sa n : Nat) (fa : Nat → Option Nat) (sx : Int32) (f_md : h md = some (.inr (0, [.ref sa, .int (nI 0)]))) (f_sa : h sa = some (.inl ((t 5), n, .inr (.inr (.inr (.inr fa)))))) (hrow : rowP (.inr (6, [.int 0, .int 0, .null])) fa 0 n h) (hn : n ≤ 200) : Met l y_Me_takesDefect (.code y_Me_takesDefect b_Me_takesDefect 2 (some .boolean) :: lw_g) { frames := 1, cells := 0, slots := 0, locals := 21 } (hP (kE D t G ak av) D vwCl G h [.ref md, .int sx]) (hQi D vwCl G (fun r h' => (r = 1 ∧ ∃ j, j < n ∧ sx = nI j) ∨ (r = 0 ∧ (sx < 0 ∨ nI n ≤ sx)))) 0 0 (fun q => G.size ≤ q) := by
  refine Met.ofW (cc := b_Me_takesDefect) (maxL := 2) (ret := (some .boolean)) (by decide) rfl ?_
  intro p e s m args below meth c s₁ Bd hml hv
  obtain ⟨ha, hE, hH⟩ := hv
  have hx := Bd.exec
  have hb := Bd.bytes
  have hr := Bd.returns
  have hts : ∀ w ∈ lw_g, w.before args s = true := fun w hw => atoms_spec (ws := (.code y_Me_takesDefect b_Me_takesDefect 2 (some .boolean) :: lw_g)) Bd.pre w (List.mem_cons_of_mem _ hw)
  have hown : s.vm.findClass R_Me = some m.cls := findClass_of_methodNamed Bd.named
  have hlocks := Bd.notSynchronized
  have hK := hE.1
  have hH0 := hH
  have hLo : hLc G.size [] := hLc_nil
  have hz : s.heap.size ≤ s.heap.size := Nat.le_refl _
  have hkp : kp [] h h := kp_rf
  have hl := lv_entry [.ref md, .int sx] (n := 2) (Nat.le_of_ble_eq_true rfl)
  rw [show entryFrame m args 2 = F0 m 0 ((lg_sl [.ref md, .int sx] ++ List.replicate (2 - (lg_sl [.ref md, .int sx]).length) Slot.unset).toArray) [] from (by rw [ha]; exact lg_entry_eq m [.ref md, .int sx] 2)]
  generalize (lg_sl [.ref md, .int sx] ++ List.replicate (2 - (lg_sl [.ref md, .int sx]).length) Slot.unset).toArray = ls at hl ⊢
  have hl : lv_has ls 2 [(0, .ref md), (1, .int sx)] := hl
  refine lv_aload_n hx hb d_Me_takesDefect_0 rfl (lv_at hl 0 rfl) ?_
  refine lv_iload_n hx hb d_Me_takesDefect_1 rfl (lv_at hl 1 rfl) ?_
  refine hm_calli (va_runV (As := [.int sx]) (b := md) (rest := []) ⟨hx, hb, hml, hown, hts⟩ (c_Medium_has l D t G ak av h md sa n fa (nI 0) sx f_md f_sa (by omega)) ⟨cw9B 1 hts mw_162 mw_164 mw_163 rfl rfl (by decide +kernel) ⟨Nat.le_of_ble_eq_true rfl, Nat.le_of_ble_eq_true rfl⟩, hts _ mw_165, hts _ mw_166⟩ (hP_V (q := (R_Me, F_Me, 2)) kE_ok hE hK hH f_md rfl) rfl rfl hl.1 rfl (lv_room (Nat.le_of_ble_eq_true rfl)) d_Me_takesDefect_2 ⟨Nat.le_of_ble_eq_true rfl, Nat.le_of_ble_eq_true rfl⟩) hLo (fun r1 h2 H3 locs hp5 hH z4 hLo => ?_)
  have hz : s.heap.size ≤ H3.size := Nat.le_trans hz z4
  obtain ⟨hr9, rfl⟩ := hp5
  rcases hr9 with ⟨rfl, j, hj, rfl⟩ | ⟨rfl, ho⟩
  · skip
    refine lv_if_ne (tgt := 10) hx hb d_Me_takesDefect_5 (by decide) (fun hc6 => ?_) (fun hc6 => absurd hc6 (by decide))
    obtain ⟨sc, hsc, f_sc⟩ := hrow.2 j (Nat.zero_le _) hj
    refine lv_aload_n hx hb d_Me_takesDefect_10 rfl (lv_at hl 0 rfl) ?_
    refine hm_get (ci := 0) (v := .ref sa) (C := R_Me) (T := F_Me) (N := 2) hx hb hts ig_Me hown hK hH f_md rfl 0 (by decide) (hts _ mw_28) (fun _ h9 => h9) rfl d_Me_takesDefect_11 ?_
    refine lv_iload_n hx hb d_Me_takesDefect_14 rfl (lv_at hl 1 rfl) ?_
    refine hj_aald (v := .ref sc) hx hb hK hH 5 f_sa (C := R_Se) rfl j rfl hj (by omega) (by rw [hsc]; rfl) d_Me_takesDefect_15 ?_
    refine hm_get (ci := 6) (v := .int 0) (C := R_Se) (T := F_Se) (N := 3) hx hb hts ig_Se hown hK hH f_sc rfl 0 (by decide) (hts _ mw_179) (fun _ h9 => h9) rfl d_Me_takesDefect_16 ?_
    refine lv_if_ne (tgt := 32) hx hb d_Me_takesDefect_19 (by decide) (fun hc7 => absurd rfl hc7) (fun hc7 => ?_)
    refine lv_aload_n hx hb d_Me_takesDefect_22 rfl (lv_at hl 0 rfl) ?_
    refine hm_get (ci := 0) (v := .ref sa) (C := R_Me) (T := F_Me) (N := 2) hx hb hts ig_Me hown hK hH f_md rfl 0 (by decide) (hts _ mw_28) (fun _ h9 => h9) rfl d_Me_takesDefect_23 ?_
    refine lv_iload_n hx hb d_Me_takesDefect_26 rfl (lv_at hl 1 rfl) ?_
    refine hj_aald (v := .ref sc) hx hb hK hH 5 f_sa (C := R_Se) rfl j rfl hj (by omega) (by rw [hsc]; rfl) d_Me_takesDefect_27 ?_
    refine lv_iconst (v := 1) hx hb d_Me_takesDefect_28 (by decide) ?_
    refine hm_put (ci := 6) (v := .int 1) (ty := .boolean) (C := R_Se) (T := F_Se) (N := 3) hx hb hts ig_Se t_Se tk_Se nm_Se hown hK hH hLo f_sc rfl 1 (by decide) (hts _ mw_174) (fun _ h9 => h9) rfl (by decide +kernel) (by decide) (by decide) (Nat.le_of_ble_eq_true rfl) d_Me_takesDefect_29 (fun H8 locs hH z9 hLo => ?_)
    have hz : s.heap.size ≤ H8.size := by rw [z9]; exact hz
    obtain ⟨h10, e11⟩ : ∃ z, z = hu h sc (.inr (6, [.int 0, .int 1, .null])) := ⟨_, rfl⟩
    have hH : hm D vwCl G h10 H8 := by rw [e11]; exact hH
    have f_md : h10 md = some (.inr (0, [.ref sa, .int (nI 0)])) := by rw [e11, hu_n (h_neC f_md f_sc (by decide))]; exact f_md
    have f_sa : h10 sa = some (.inl ((t 5), n, .inr (.inr (.inr (.inr fa))))) := by rw [e11, hu_n (h_neA f_sa f_sc)]; exact f_sa
    have f_sc : h10 sc = some (.inr (6, [.int 0, .int 1, .null])) := by rw [e11]; exact hu_s _ _ _
    refine lv_iconst (v := 1) hx hb d_Me_takesDefect_32 (by decide) ?_
    exact W.zret (v := 1) hx hb hr (by decide) (fun t9 ht hW => ⟨1, h10, rfl, Or.inl ⟨rfl, j, hj, rfl⟩, by rw [ht]; exact hH, by rw [ht]; exact hz⟩) hLo d_Me_takesDefect_33
  · skip
    refine lv_if_ne (tgt := 10) hx hb d_Me_takesDefect_5 (by decide) (fun hc12 => absurd rfl hc12) (fun hc12 => ?_)
    refine lv_iconst (v := 0) hx hb d_Me_takesDefect_8 (by decide) ?_
    exact W.zret (v := 0) hx hb hr (by decide) (fun t9 ht hW => ⟨0, h, rfl, Or.inr ⟨rfl, ho⟩, by rw [ht]; exact hH, by rw [ht]; exact hz⟩) hLo d_Me_takesDefect_9

set_option maxHeartbeats 4000000 in
set_option maxRecDepth 100000 in
theorem c_x_defect (l : Launch) (D : va_G) (t : Nat → ClassId) (G : Heap) (ak av : Nat → Nat) (h : hM) (x n : Nat) (sx : Int32) (hX : FrX t h x n) : Met l y_Di_defect (.code y_Di_defect b_Di_defect 2 (some .boolean) :: lw_g) { frames := 2, cells := 0, slots := 0, locals := 42 } (hP (kE D t G ak av) D vwCl G h [.ref x, .int sx]) (hQi D vwCl G (fun r h' => (r = 1 ∧ ∃ j, j < n ∧ sx = nI j) ∨ (r = 0 ∧ (sx < 0 ∨ nI n ≤ sx)))) 0 0 (fun q => G.size ≤ q) := by
  refine Met.ofW (cc := b_Di_defect) (maxL := 2) (ret := (some .boolean)) (by decide) rfl ?_
  intro p e s m args below meth c s₁ Bd hml hv
  obtain ⟨ha, hE, hH⟩ := hv
  have hx := Bd.exec
  have hb := Bd.bytes
  have hr := Bd.returns
  have hts : ∀ w ∈ lw_g, w.before args s = true := fun w hw => atoms_spec (ws := (.code y_Di_defect b_Di_defect 2 (some .boolean) :: lw_g)) Bd.pre w (List.mem_cons_of_mem _ hw)
  have hown : s.vm.findClass R_Di = some m.cls := findClass_of_methodNamed Bd.named
  have hlocks := Bd.notSynchronized
  have hK := hE.1
  have hH0 := hH
  have hLo : hLc G.size [] := hLc_nil
  have hz : s.heap.size ≤ s.heap.size := Nat.le_refl _
  have hkp : kp [] h h := kp_rf
  have hl := lv_entry [.ref x, .int sx] (n := 2) (Nat.le_of_ble_eq_true rfl)
  rw [show entryFrame m args 2 = F0 m 0 ((lg_sl [.ref x, .int sx] ++ List.replicate (2 - (lg_sl [.ref x, .int sx]).length) Slot.unset).toArray) [] from (by rw [ha]; exact lg_entry_eq m [.ref x, .int sx] 2)]
  generalize (lg_sl [.ref x, .int sx] ++ List.replicate (2 - (lg_sl [.ref x, .int sx]).length) Slot.unset).toArray = ls at hl ⊢
  have hl : lv_has ls 2 [(0, .ref x), (1, .int sx)] := hl
  obtain ⟨wr, rd, ns, op, sr, md, su, pg, pb, sl, od, sa, fs, g, fa, f_x, f_wr, f_su, f_pg, f_pb, f_ns, f_sl, f_od, hgf, hnd, f_md, f_sa, hrow, ne_sl_od, hn40, hn⟩ := hX
  obtain ⟨rt, hf0, f_rt⟩ := hnd.2 0 (by decide) (by decide)
  refine lv_aload_n hx hb d_Di_defect_0 rfl (lv_at hl 0 rfl) ?_
  refine hm_get (ci := 8) (v := .ref md) (C := R_Di) (T := F_Di) (N := 9) hx hb hts ig_Di hown hK hH f_x rfl 3 (by decide) (hts _ mw_269) (fun _ h9 => h9) rfl d_Di_defect_1 ?_
  refine lv_iload_n hx hb d_Di_defect_4 rfl (lv_at hl 1 rfl) ?_
  refine hm_calli (va_runV (As := [.int sx]) (b := md) (rest := []) ⟨hx, hb, hml, hown, hts⟩ (c_Medium_takes l D t G ak av h md sa n fa sx f_md f_sa hrow hn) ⟨cw9B 1 hts mw_286 mw_287 mw_163 rfl rfl (by decide +kernel) ⟨Nat.le_of_ble_eq_true rfl, Nat.le_of_ble_eq_true rfl⟩, hts _ mw_288, hts _ mw_289⟩ (hP_V (q := (R_Me, F_Me, 2)) kE_ok hE hK hH f_md rfl) rfl rfl hl.1 rfl (lv_room (Nat.le_of_ble_eq_true rfl)) d_Di_defect_5 ⟨Nat.le_of_ble_eq_true rfl, Nat.le_of_ble_eq_true rfl⟩) hLo (fun r1 h2 H3 locs hp5 hH z4 hLo => ?_)
  have hz : s.heap.size ≤ H3.size := Nat.le_trans hz z4
  exact W.zret (v := r1) hx hb hr (bool9 hp5) (fun t9 ht hW => ⟨r1, h2, rfl, hp5, by rw [ht]; exact hH, by rw [ht]; exact hz⟩) hLo d_Di_defect_8

set_option maxHeartbeats 4000000 in
set_option maxRecDepth 100000 in
theorem c_x_power (l : Launch) (D : va_G) (t : Nat → ClassId) (G : Heap) (ak av : Nat → Nat) (h : hM) (x n : Nat) (v : Int32) (hX : FrX t h x n) : Met l y_Di_power (.code y_Di_power b_Di_power 2 none :: lw_g) { frames := 0, cells := 0, slots := 0, locals := 0 } (hP (kE D t G ak av) D vwCl G h [.ref x, .int v]) (hQv D vwCl G (fun h' => True)) 0 0 (fun q => G.size ≤ q) := by
  refine Met.ofW (cc := b_Di_power) (maxL := 2) (ret := none) (by decide) rfl ?_
  intro p e s m args below meth c s₁ Bd hml hv
  obtain ⟨ha, hE, hH⟩ := hv
  have hx := Bd.exec
  have hb := Bd.bytes
  have hr := Bd.returns
  have hts : ∀ w ∈ lw_g, w.before args s = true := fun w hw => atoms_spec (ws := (.code y_Di_power b_Di_power 2 none :: lw_g)) Bd.pre w (List.mem_cons_of_mem _ hw)
  have hown : s.vm.findClass R_Di = some m.cls := findClass_of_methodNamed Bd.named
  have hlocks := Bd.notSynchronized
  have hK := hE.1
  have hH0 := hH
  have hLo : hLc G.size [] := hLc_nil
  have hz : s.heap.size ≤ s.heap.size := Nat.le_refl _
  have hkp : kp [] h h := kp_rf
  have hl := lv_entry [.ref x, .int v] (n := 2) (Nat.le_of_ble_eq_true rfl)
  rw [show entryFrame m args 2 = F0 m 0 ((lg_sl [.ref x, .int v] ++ List.replicate (2 - (lg_sl [.ref x, .int v]).length) Slot.unset).toArray) [] from (by rw [ha]; exact lg_entry_eq m [.ref x, .int v] 2)]
  generalize (lg_sl [.ref x, .int v] ++ List.replicate (2 - (lg_sl [.ref x, .int v]).length) Slot.unset).toArray = ls at hl ⊢
  have hl : lv_has ls 2 [(0, .ref x), (1, .int v)] := hl
  obtain ⟨wr, rd, ns, op, sr, md, su, pg, pb, sl, od, sa, fs, g, fa, f_x, f_wr, f_su, f_pg, f_pb, f_ns, f_sl, f_od, hgf, hnd, f_md, f_sa, hrow, ne_sl_od, hn40, hn⟩ := hX
  obtain ⟨rt, hf0, f_rt⟩ := hnd.2 0 (by decide) (by decide)
  refine lv_aload_n hx hb d_Di_power_0 rfl (lv_at hl 0 rfl) ?_
  refine hm_get (ci := 8) (v := .ref wr) (C := R_Di) (T := F_Di) (N := 9) hx hb hts ig_Di hown hK hH f_x rfl 0 (by decide) (hts _ mw_246) (fun _ h9 => h9) rfl d_Di_power_1 ?_
  refine hm_get (ci := 7) (v := .ref su) (C := R_Wr) (T := F_Wr) (N := 2) hx hb hts ig_Wr hown hK hH f_wr rfl 0 (by decide) (hts _ mw_290) (fun _ h9 => h9) rfl d_Di_power_4 ?_
  refine lv_iload_n hx hb d_Di_power_7 rfl (lv_at hl 1 rfl) ?_
  refine lv_if_ge (tgt := 15) hx hb d_Di_power_8 (by decide) (fun hc1 => ?_) (fun hc1 => ?_)
  · skip
    refine lv_iload_n hx hb d_Di_power_15 rfl (lv_at hl 1 rfl) ?_
    refine hm_put (ci := 4) (v := .int v) (ty := .int) (C := R_Po) (T := F_Po) (N := 3) hx hb hts ig_Po t_Po tk_Po nm_Po hown hK hH hLo f_su rfl 0 (by decide) (hts _ mw_291) (fun _ h9 => h9) rfl (by decide +kernel) rfl rfl (Nat.le_of_ble_eq_true rfl) d_Di_power_16 (fun H2 locs hH z3 hLo => ?_)
    have hz : s.heap.size ≤ H2.size := by rw [z3]; exact hz
    obtain ⟨h4, e5⟩ : ∃ z, z = hu h su (.inr (4, [.int v, .int 0, .int 0])) := ⟨_, rfl⟩
    have hH : hm D vwCl G h4 H2 := by rw [e5]; exact hH
    have f_x : h4 x = some (.inr (8, [.ref wr, .ref rd, .ref ns, .ref md, .null, .int 0, .int 0, .ref op, .ref sr])) := by rw [e5, hu_n (h_neC f_x f_su (by decide))]; exact f_x
    have f_wr : h4 wr = some (.inr (7, [.ref su, .ref pg])) := by rw [e5, hu_n (h_neC f_wr f_su (by decide))]; exact f_wr
    have f_pg : h4 pg = some (.inr (3, [.ref pb])) := by rw [e5, hu_n (h_neC f_pg f_su (by decide))]; exact f_pg
    have f_pb : h4 pb = some (.inl ((t 0), 2048, .inl (fun _ => 0))) := by rw [e5, hu_n (h_neA f_pb f_su)]; exact f_pb
    have f_ns : h4 ns = some (.inr (2, [.ref sl, .ref od, .int 1, .int 1])) := by rw [e5, hu_n (h_neC f_ns f_su (by decide))]; exact f_ns
    have f_sl : h4 sl = some (.inl ((t 4), 30, .inr (.inr (.inr (.inr fs))))) := by rw [e5, hu_n (h_neA f_sl f_su)]; exact f_sl
    have f_od : h4 od = some (.inl ((t 4), 30, .inr (.inr (.inr (.inr g))))) := by rw [e5, hu_n (h_neA f_od f_su)]; exact f_od
    have f_md : h4 md = some (.inr (0, [.ref sa, .int (nI 0)])) := by rw [e5, hu_n (h_neC f_md f_su (by decide))]; exact f_md
    have f_sa : h4 sa = some (.inl ((t 5), n, .inr (.inr (.inr (.inr fa))))) := by rw [e5, hu_n (h_neA f_sa f_su)]; exact f_sa
    have f_rt : h4 rt = some (.inr (1, [.int 0, .null, .int 1, .long 0, .int 0, .int 0, .int 0, .int 0, .int 0, .int 0, .int 1])) := by rw [e5, hu_n (h_neC f_rt f_su (by decide))]; exact f_rt
    have f_su : h4 su = some (.inr (4, [.int v, .int 0, .int 0])) := by rw [e5]; exact hu_s _ _ _
    exact W.vret hx hb hr (fun t9 ht hW => ⟨h4, rfl, trivial, by rw [ht]; exact hH, by rw [ht]; exact hz⟩) hLo d_Di_power_19
  · skip
    refine lv_iconst (v := -1) hx hb d_Di_power_11 (by decide) ?_
    refine lv_goto (tgt := 16) hx hb d_Di_power_12 (by decide) ?_
    refine hm_put (ci := 4) (v := .int (-1)) (ty := .int) (C := R_Po) (T := F_Po) (N := 3) hx hb hts ig_Po t_Po tk_Po nm_Po hown hK hH hLo f_su rfl 0 (by decide) (hts _ mw_291) (fun _ h9 => h9) rfl (by decide +kernel) rfl rfl (Nat.le_of_ble_eq_true rfl) d_Di_power_16 (fun H6 locs hH z7 hLo => ?_)
    have hz : s.heap.size ≤ H6.size := by rw [z7]; exact hz
    obtain ⟨h8, e9⟩ : ∃ z, z = hu h su (.inr (4, [.int (-1), .int 0, .int 0])) := ⟨_, rfl⟩
    have hH : hm D vwCl G h8 H6 := by rw [e9]; exact hH
    have f_x : h8 x = some (.inr (8, [.ref wr, .ref rd, .ref ns, .ref md, .null, .int 0, .int 0, .ref op, .ref sr])) := by rw [e9, hu_n (h_neC f_x f_su (by decide))]; exact f_x
    have f_wr : h8 wr = some (.inr (7, [.ref su, .ref pg])) := by rw [e9, hu_n (h_neC f_wr f_su (by decide))]; exact f_wr
    have f_pg : h8 pg = some (.inr (3, [.ref pb])) := by rw [e9, hu_n (h_neC f_pg f_su (by decide))]; exact f_pg
    have f_pb : h8 pb = some (.inl ((t 0), 2048, .inl (fun _ => 0))) := by rw [e9, hu_n (h_neA f_pb f_su)]; exact f_pb
    have f_ns : h8 ns = some (.inr (2, [.ref sl, .ref od, .int 1, .int 1])) := by rw [e9, hu_n (h_neC f_ns f_su (by decide))]; exact f_ns
    have f_sl : h8 sl = some (.inl ((t 4), 30, .inr (.inr (.inr (.inr fs))))) := by rw [e9, hu_n (h_neA f_sl f_su)]; exact f_sl
    have f_od : h8 od = some (.inl ((t 4), 30, .inr (.inr (.inr (.inr g))))) := by rw [e9, hu_n (h_neA f_od f_su)]; exact f_od
    have f_md : h8 md = some (.inr (0, [.ref sa, .int (nI 0)])) := by rw [e9, hu_n (h_neC f_md f_su (by decide))]; exact f_md
    have f_sa : h8 sa = some (.inl ((t 5), n, .inr (.inr (.inr (.inr fa))))) := by rw [e9, hu_n (h_neA f_sa f_su)]; exact f_sa
    have f_rt : h8 rt = some (.inr (1, [.int 0, .null, .int 1, .long 0, .int 0, .int 0, .int 0, .int 0, .int 0, .int 0, .int 1])) := by rw [e9, hu_n (h_neC f_rt f_su (by decide))]; exact f_rt
    have f_su : h8 su = some (.inr (4, [.int (-1), .int 0, .int 0])) := by rw [e9]; exact hu_s _ _ _
    exact W.vret hx hb hr (fun t9 ht hW => ⟨h8, rfl, trivial, by rw [ht]; exact hH, by rw [ht]; exact hz⟩) hLo d_Di_power_19

set_option maxHeartbeats 4000000 in
set_option maxRecDepth 100000 in
theorem c_x_writes (l : Launch) (D : va_G) (t : Nat → ClassId) (G : Heap) (ak av : Nat → Nat) (h : hM) (x n : Nat) (hX : FrX t h x n) : Met l y_Di_writes (.code y_Di_writes b_Di_writes 1 (some .int) :: lw_g) { frames := 0, cells := 0, slots := 0, locals := 0 } (hP (kE D t G ak av) D vwCl G h [.ref x]) (hQi D vwCl G (fun r h' => r = 0)) 0 0 (fun q => G.size ≤ q) := by
  refine Met.ofW (cc := b_Di_writes) (maxL := 1) (ret := (some .int)) (by decide) rfl ?_
  intro p e s m args below meth c s₁ Bd hml hv
  obtain ⟨ha, hE, hH⟩ := hv
  have hx := Bd.exec
  have hb := Bd.bytes
  have hr := Bd.returns
  have hts : ∀ w ∈ lw_g, w.before args s = true := fun w hw => atoms_spec (ws := (.code y_Di_writes b_Di_writes 1 (some .int) :: lw_g)) Bd.pre w (List.mem_cons_of_mem _ hw)
  have hown : s.vm.findClass R_Di = some m.cls := findClass_of_methodNamed Bd.named
  have hlocks := Bd.notSynchronized
  have hK := hE.1
  have hH0 := hH
  have hLo : hLc G.size [] := hLc_nil
  have hz : s.heap.size ≤ s.heap.size := Nat.le_refl _
  have hkp : kp [] h h := kp_rf
  have hl := lv_entry [.ref x] (n := 1) (Nat.le_of_ble_eq_true rfl)
  rw [show entryFrame m args 1 = F0 m 0 ((lg_sl [.ref x] ++ List.replicate (1 - (lg_sl [.ref x]).length) Slot.unset).toArray) [] from (by rw [ha]; exact lg_entry_eq m [.ref x] 1)]
  generalize (lg_sl [.ref x] ++ List.replicate (1 - (lg_sl [.ref x]).length) Slot.unset).toArray = ls at hl ⊢
  have hl : lv_has ls 1 [(0, .ref x)] := hl
  obtain ⟨wr, rd, ns, op, sr, md, su, pg, pb, sl, od, sa, fs, g, fa, f_x, f_wr, f_su, f_pg, f_pb, f_ns, f_sl, f_od, hgf, hnd, f_md, f_sa, hrow, ne_sl_od, hn40, hn⟩ := hX
  obtain ⟨rt, hf0, f_rt⟩ := hnd.2 0 (by decide) (by decide)
  refine lv_aload_n hx hb d_Di_writes_0 rfl (lv_at hl 0 rfl) ?_
  refine hm_get (ci := 8) (v := .ref wr) (C := R_Di) (T := F_Di) (N := 9) hx hb hts ig_Di hown hK hH f_x rfl 0 (by decide) (hts _ mw_246) (fun _ h9 => h9) rfl d_Di_writes_1 ?_
  refine hm_get (ci := 7) (v := .ref su) (C := R_Wr) (T := F_Wr) (N := 2) hx hb hts ig_Wr hown hK hH f_wr rfl 0 (by decide) (hts _ mw_290) (fun _ h9 => h9) rfl d_Di_writes_4 ?_
  refine hm_get (ci := 4) (v := .int 0) (C := R_Po) (T := F_Po) (N := 3) hx hb hts ig_Po hown hK hH f_su rfl 2 (by decide) (hts _ mw_292) (fun _ h9 => h9) rfl d_Di_writes_7 ?_
  exact W.iret (v := 0) hx hb hr (fun t9 ht hW => ⟨0, h, rfl, rfl, by rw [ht]; exact hH, by rw [ht]; exact hz⟩) hLo d_Di_writes_10

set_option maxHeartbeats 4000000 in
set_option maxRecDepth 100000 in
theorem c_x_state (l : Launch) (D : va_G) (t : Nat → ClassId) (G : Heap) (ak av : Nat → Nat) (h : hM) (x n : Nat) (sx : Int32) (hX : FrX t h x n) : Met l y_Di_state (.code y_Di_state b_Di_state 2 (some .int) :: lw_g) { frames := 1, cells := 0, slots := 0, locals := 21 } (hP (kE D t G ak av) D vwCl G h [.ref x, .int sx]) (hQi D vwCl G (fun r h' => (r = 0 ∧ ∃ j, j < n ∧ sx = nI j) ∨ (r = -1 ∧ (sx < 0 ∨ nI n ≤ sx)))) 0 0 (fun q => G.size ≤ q) := by
  refine Met.ofW (cc := b_Di_state) (maxL := 2) (ret := (some .int)) (by decide) rfl ?_
  intro p e s m args below meth c s₁ Bd hml hv
  obtain ⟨ha, hE, hH⟩ := hv
  have hx := Bd.exec
  have hb := Bd.bytes
  have hr := Bd.returns
  have hts : ∀ w ∈ lw_g, w.before args s = true := fun w hw => atoms_spec (ws := (.code y_Di_state b_Di_state 2 (some .int) :: lw_g)) Bd.pre w (List.mem_cons_of_mem _ hw)
  have hown : s.vm.findClass R_Di = some m.cls := findClass_of_methodNamed Bd.named
  have hlocks := Bd.notSynchronized
  have hK := hE.1
  have hH0 := hH
  have hLo : hLc G.size [] := hLc_nil
  have hz : s.heap.size ≤ s.heap.size := Nat.le_refl _
  have hkp : kp [] h h := kp_rf
  have hl := lv_entry [.ref x, .int sx] (n := 2) (Nat.le_of_ble_eq_true rfl)
  rw [show entryFrame m args 2 = F0 m 0 ((lg_sl [.ref x, .int sx] ++ List.replicate (2 - (lg_sl [.ref x, .int sx]).length) Slot.unset).toArray) [] from (by rw [ha]; exact lg_entry_eq m [.ref x, .int sx] 2)]
  generalize (lg_sl [.ref x, .int sx] ++ List.replicate (2 - (lg_sl [.ref x, .int sx]).length) Slot.unset).toArray = ls at hl ⊢
  have hl : lv_has ls 2 [(0, .ref x), (1, .int sx)] := hl
  obtain ⟨wr, rd, ns, op, sr, md, su, pg, pb, sl, od, sa, fs, g, fa, f_x, f_wr, f_su, f_pg, f_pb, f_ns, f_sl, f_od, hgf, hnd, f_md, f_sa, hrow, ne_sl_od, hn40, hn⟩ := hX
  obtain ⟨rt, hf0, f_rt⟩ := hnd.2 0 (by decide) (by decide)
  refine lv_aload_n hx hb d_Di_state_0 rfl (lv_at hl 0 rfl) ?_
  refine hm_get (ci := 8) (v := .ref md) (C := R_Di) (T := F_Di) (N := 9) hx hb hts ig_Di hown hK hH f_x rfl 3 (by decide) (hts _ mw_269) (fun _ h9 => h9) rfl d_Di_state_1 ?_
  refine lv_iload_n hx hb d_Di_state_4 rfl (lv_at hl 1 rfl) ?_
  refine hm_calli (va_runV (As := [.int sx]) (b := md) (rest := []) ⟨hx, hb, hml, hown, hts⟩ (c_Medium_has l D t G ak av h md sa n fa (nI 0) sx f_md f_sa (by omega)) ⟨cw9B 1 hts mw_162 mw_293 mw_163 rfl rfl (by decide +kernel) ⟨Nat.le_of_ble_eq_true rfl, Nat.le_of_ble_eq_true rfl⟩, hts _ mw_165, hts _ mw_166⟩ (hP_V (q := (R_Me, F_Me, 2)) kE_ok hE hK hH f_md rfl) rfl rfl hl.1 rfl (lv_room (Nat.le_of_ble_eq_true rfl)) d_Di_state_5 ⟨Nat.le_of_ble_eq_true rfl, Nat.le_of_ble_eq_true rfl⟩) hLo (fun r1 h2 H3 locs hp5 hH z4 hLo => ?_)
  have hz : s.heap.size ≤ H3.size := Nat.le_trans hz z4
  obtain ⟨hr9, rfl⟩ := hp5
  rcases hr9 with ⟨rfl, j, hj, rfl⟩ | ⟨rfl, ho⟩
  · skip
    refine lv_if_eq (tgt := 26) hx hb d_Di_state_8 (by decide) (fun hc6 => absurd hc6 (by decide)) (fun hc6 => ?_)
    obtain ⟨sc, hsc, f_sc⟩ := hrow.2 j (Nat.zero_le _) hj
    refine lv_aload_n hx hb d_Di_state_11 rfl (lv_at hl 0 rfl) ?_
    refine hm_get (ci := 8) (v := .ref md) (C := R_Di) (T := F_Di) (N := 9) hx hb hts ig_Di hown hK hH f_x rfl 3 (by decide) (hts _ mw_269) (fun _ h9 => h9) rfl d_Di_state_12 ?_
    refine hm_get (ci := 0) (v := .ref sa) (C := R_Me) (T := F_Me) (N := 2) hx hb hts ig_Me hown hK hH f_md rfl 0 (by decide) (hts _ mw_294) (fun _ h9 => h9) rfl d_Di_state_15 ?_
    refine lv_iload_n hx hb d_Di_state_18 rfl (lv_at hl 1 rfl) ?_
    refine hj_aald (v := .ref sc) hx hb hK hH 5 f_sa (C := R_Se) rfl j rfl hj (by omega) (by rw [hsc]; rfl) d_Di_state_19 ?_
    refine hm_get (ci := 6) (v := .int 0) (C := R_Se) (T := F_Se) (N := 3) hx hb hts ig_Se hown hK hH f_sc rfl 0 (by decide) (hts _ mw_295) (fun _ h9 => h9) rfl d_Di_state_20 ?_
    refine lv_goto (tgt := 27) hx hb d_Di_state_23 (by decide) ?_
    exact W.iret (v := 0) hx hb hr (fun t9 ht hW => ⟨0, h, rfl, Or.inl ⟨rfl, j, hj, rfl⟩, by rw [ht]; exact hH, by rw [ht]; exact hz⟩) hLo d_Di_state_27
  · skip
    refine lv_if_eq (tgt := 26) hx hb d_Di_state_8 (by decide) (fun hc7 => ?_) (fun hc7 => absurd rfl hc7)
    refine lv_iconst (v := -1) hx hb d_Di_state_26 (by decide) ?_
    exact W.iret (v := (-1)) hx hb hr (fun t9 ht hW => ⟨(-1), h, rfl, Or.inr ⟨rfl, ho⟩, by rw [ht]; exact hH, by rw [ht]; exact hz⟩) hLo d_Di_state_27

set_option maxHeartbeats 4000000 in
set_option maxRecDepth 100000 in
theorem c_Medium_fetch (l : Launch) (D : va_G) (t : Nat → ClassId) (G : Heap) (ak av : Nat → Nat) (h : hM) (md sa n : Nat) (fa : Nat → Option Nat) (a9 : Int32) (f_md : h md = some (.inr (0, [.ref sa, .int (nI 0)]))) (f_sa : h sa = some (.inl ((t 5), n, .inr (.inr (.inr (.inr fa)))))) (hrow : rowP (.inr (6, [.int 0, .int 0, .null])) fa 0 n h) (hn : n ≤ 200) : Met l y_Me_fetch (.code y_Me_fetch b_Me_fetch 4 (some .int) :: lw_g) { frames := 0, cells := 0, slots := 0, locals := 0 } (hP (kE D t G ak av) D vwCl G h [.ref md, .int a9]) (hQi D vwCl G (fun r h' => r = bytV n a9 ∧ h = h')) 0 0 (fun q => G.size ≤ q) := by
  refine Met.ofW (cc := b_Me_fetch) (maxL := 4) (ret := (some .int)) (by decide) rfl ?_
  intro p e s m args below meth c s₁ Bd hml hv
  obtain ⟨ha, hE, hH⟩ := hv
  have hx := Bd.exec
  have hb := Bd.bytes
  have hr := Bd.returns
  have hts : ∀ w ∈ lw_g, w.before args s = true := fun w hw => atoms_spec (ws := (.code y_Me_fetch b_Me_fetch 4 (some .int) :: lw_g)) Bd.pre w (List.mem_cons_of_mem _ hw)
  have hown : s.vm.findClass R_Me = some m.cls := findClass_of_methodNamed Bd.named
  have hlocks := Bd.notSynchronized
  have hK := hE.1
  have hH0 := hH
  have hLo : hLc G.size [] := hLc_nil
  have hz : s.heap.size ≤ s.heap.size := Nat.le_refl _
  have hkp : kp [] h h := kp_rf
  have hl := lv_entry [.ref md, .int a9] (n := 4) (Nat.le_of_ble_eq_true rfl)
  rw [show entryFrame m args 4 = F0 m 0 ((lg_sl [.ref md, .int a9] ++ List.replicate (4 - (lg_sl [.ref md, .int a9]).length) Slot.unset).toArray) [] from (by rw [ha]; exact lg_entry_eq m [.ref md, .int a9] 4)]
  generalize (lg_sl [.ref md, .int a9] ++ List.replicate (4 - (lg_sl [.ref md, .int a9]).length) Slot.unset).toArray = ls at hl ⊢
  have hl : lv_has ls 4 [(0, .ref md), (1, .int a9)] := hl
  refine lv_iload_n hx hb d_Me_fetch_0 rfl (lv_at hl 1 rfl) ?_
  refine lv_sipush (v := 2048) hx hb d_Me_fetch_1 (by decide) ?_
  refine lv_idiv hx hb d_Me_fetch_4 (by decide) ?_
  refine lv_istore_n (lv' := [(2, .int (a9 / 2048)), (0, .ref md), (1, .int a9)]) hx hb d_Me_fetch_5 rfl hl (by decide) rfl (fun ls hl => ?_)
  refine lv_iload_n hx hb d_Me_fetch_6 rfl (lv_at hl 2 rfl) ?_
  refine lv_if_lt (tgt := 19) hx hb d_Me_fetch_7 (by decide) (fun hc1 => ?_) (fun hc1 => ?_)
  · skip
    refine lv_iconst (v := -1) hx hb d_Me_fetch_19 (by decide) ?_
    exact W.iret (v := (-1)) hx hb hr (fun t9 ht hW => ⟨(-1), h, rfl, ⟨by rw [bytV, if_pos hc1], rfl⟩, by rw [ht]; exact hH, by rw [ht]; exact hz⟩) hLo d_Me_fetch_20
  · skip
    refine lv_iload_n hx hb d_Me_fetch_10 rfl (lv_at hl 0 rfl) ?_
    refine lv_aload_n hx hb d_Me_fetch_11 rfl (lv_at hl 1 rfl) ?_
    refine hm_get (ci := 0) (v := .ref sa) (C := R_Me) (T := F_Me) (N := 2) hx hb hts ig_Me hown hK hH f_md rfl 0 (by decide) (hts _ mw_28) (fun _ h9 => h9) rfl d_Me_fetch_12 ?_
    refine hm_alen (v := nI n) hx hb hK hH 5 f_sa (ty := (.object "WriteOnceDisc$Sector")) rfl rfl d_Me_fetch_15 ?_
    refine lv_icmp_lt (tgt := 21) hx hb d_Me_fetch_16 (by decide) (fun hc2 => ?_) (fun hc2 => ?_)
    · skip
      obtain ⟨j, hj, hje⟩ := div9 hc1 hc2 hn
      obtain ⟨sc, hsc, f_sc⟩ := hrow.2 j (Nat.zero_le _) hj
      refine lv_aload_n hx hb d_Me_fetch_21 rfl (lv_at hl 1 rfl) ?_
      refine hm_get (ci := 0) (v := .ref sa) (C := R_Me) (T := F_Me) (N := 2) hx hb hts ig_Me hown hK hH f_md rfl 0 (by decide) (hts _ mw_28) (fun _ h9 => h9) rfl d_Me_fetch_22 ?_
      refine lv_iload_n hx hb d_Me_fetch_25 rfl (lv_at hl 0 rfl) ?_
      refine hj_aald (v := .ref sc) hx hb hK hH 5 f_sa (C := R_Se) rfl j hje hj (by omega) (by rw [hsc]; rfl) d_Me_fetch_26 ?_
      refine lv_astore_n (lv' := [(3, .ref sc), (2, .int (a9 / 2048)), (0, .ref md), (1, .int a9)]) hx hb d_Me_fetch_27 rfl hl (by decide) rfl (fun ls hl => ?_)
      refine lv_aload_n hx hb d_Me_fetch_28 rfl (lv_at hl 0 rfl) ?_
      refine hm_get (ci := 6) (v := .int 0) (C := R_Se) (T := F_Se) (N := 3) hx hb hts ig_Se hown hK hH f_sc rfl 0 (by decide) (hts _ mw_179) (fun _ h9 => h9) rfl d_Me_fetch_29 ?_
      refine lv_iconst (v := 1) hx hb d_Me_fetch_32 (by decide) ?_
      refine lv_icmp_ne (tgt := 60) hx hb d_Me_fetch_33 (by decide) (fun hc3 => ?_) (fun hc3 => absurd hc3 (by decide))
      refine lv_iconst (v := 0) hx hb d_Me_fetch_60 (by decide) ?_
      exact W.iret (v := 0) hx hb hr (fun t9 ht hW => ⟨0, h, rfl, ⟨by rw [bytV, if_neg hc1, if_pos hc2], rfl⟩, by rw [ht]; exact hH, by rw [ht]; exact hz⟩) hLo d_Me_fetch_61
    · skip
      refine lv_iconst (v := -1) hx hb d_Me_fetch_19 (by decide) ?_
      exact W.iret (v := (-1)) hx hb hr (fun t9 ht hW => ⟨(-1), h, rfl, ⟨by rw [bytV, if_neg hc1, if_neg hc2], rfl⟩, by rw [ht]; exact hH, by rw [ht]; exact hz⟩) hLo d_Me_fetch_20

set_option maxHeartbeats 4000000 in
set_option maxRecDepth 100000 in
theorem c_x_byteAt (l : Launch) (D : va_G) (t : Nat → ClassId) (G : Heap) (ak av : Nat → Nat) (h : hM) (x n : Nat) (a9 : Int32) (hX : FrX t h x n) : Met l y_Di_byteAt (.code y_Di_byteAt b_Di_byteAt 2 (some .int) :: lw_g) { frames := 1, cells := 0, slots := 0, locals := 23 } (hP (kE D t G ak av) D vwCl G h [.ref x, .int a9]) (hQi D vwCl G (fun r h' => r = bytV n a9)) 0 0 (fun q => G.size ≤ q) := by
  refine Met.ofW (cc := b_Di_byteAt) (maxL := 2) (ret := (some .int)) (by decide) rfl ?_
  intro p e s m args below meth c s₁ Bd hml hv
  obtain ⟨ha, hE, hH⟩ := hv
  have hx := Bd.exec
  have hb := Bd.bytes
  have hr := Bd.returns
  have hts : ∀ w ∈ lw_g, w.before args s = true := fun w hw => atoms_spec (ws := (.code y_Di_byteAt b_Di_byteAt 2 (some .int) :: lw_g)) Bd.pre w (List.mem_cons_of_mem _ hw)
  have hown : s.vm.findClass R_Di = some m.cls := findClass_of_methodNamed Bd.named
  have hlocks := Bd.notSynchronized
  have hK := hE.1
  have hH0 := hH
  have hLo : hLc G.size [] := hLc_nil
  have hz : s.heap.size ≤ s.heap.size := Nat.le_refl _
  have hkp : kp [] h h := kp_rf
  have hl := lv_entry [.ref x, .int a9] (n := 2) (Nat.le_of_ble_eq_true rfl)
  rw [show entryFrame m args 2 = F0 m 0 ((lg_sl [.ref x, .int a9] ++ List.replicate (2 - (lg_sl [.ref x, .int a9]).length) Slot.unset).toArray) [] from (by rw [ha]; exact lg_entry_eq m [.ref x, .int a9] 2)]
  generalize (lg_sl [.ref x, .int a9] ++ List.replicate (2 - (lg_sl [.ref x, .int a9]).length) Slot.unset).toArray = ls at hl ⊢
  have hl : lv_has ls 2 [(0, .ref x), (1, .int a9)] := hl
  obtain ⟨wr, rd, ns, op, sr, md, su, pg, pb, sl, od, sa, fs, g, fa, f_x, f_wr, f_su, f_pg, f_pb, f_ns, f_sl, f_od, hgf, hnd, f_md, f_sa, hrow, ne_sl_od, hn40, hn⟩ := hX
  obtain ⟨rt, hf0, f_rt⟩ := hnd.2 0 (by decide) (by decide)
  refine lv_aload_n hx hb d_Di_byteAt_0 rfl (lv_at hl 0 rfl) ?_
  refine hm_get (ci := 8) (v := .ref md) (C := R_Di) (T := F_Di) (N := 9) hx hb hts ig_Di hown hK hH f_x rfl 3 (by decide) (hts _ mw_269) (fun _ h9 => h9) rfl d_Di_byteAt_1 ?_
  refine lv_iload_n hx hb d_Di_byteAt_4 rfl (lv_at hl 1 rfl) ?_
  refine hm_calli (va_runV (As := [.int a9]) (b := md) (rest := []) ⟨hx, hb, hml, hown, hts⟩ (c_Medium_fetch l D t G ak av h md sa n fa a9 f_md f_sa hrow hn) ⟨cw9B 1 hts mw_296 mw_297 mw_163 rfl rfl (by decide +kernel) ⟨Nat.le_of_ble_eq_true rfl, Nat.le_of_ble_eq_true rfl⟩, hts _ mw_298, hts _ mw_299⟩ (hP_V (q := (R_Me, F_Me, 2)) kE_ok hE hK hH f_md rfl) rfl rfl hl.1 rfl (lv_room (Nat.le_of_ble_eq_true rfl)) d_Di_byteAt_5 ⟨Nat.le_of_ble_eq_true rfl, Nat.le_of_ble_eq_true rfl⟩) hLo (fun r1 h2 H3 locs hp5 hH z4 hLo => ?_)
  have hz : s.heap.size ≤ H3.size := Nat.le_trans hz z4
  obtain ⟨rfl, rfl⟩ := hp5
  exact W.iret (v := bytV n a9) hx hb hr (fun t9 ht hW => ⟨bytV n a9, h, rfl, rfl, by rw [ht]; exact hH, by rw [ht]; exact hz⟩) hLo d_Di_byteAt_8

set_option maxHeartbeats 4000000 in
set_option maxRecDepth 100000 in
theorem c_Medium_written (l : Launch) (D : va_G) (t : Nat → ClassId) (G : Heap) (ak av : Nat → Nat) (h : hM) (md sa n : Nat) (fa : Nat → Option Nat) (sx : Int32) (f_md : h md = some (.inr (0, [.ref sa, .int (nI 0)]))) (f_sa : h sa = some (.inl ((t 5), n, .inr (.inr (.inr (.inr fa)))))) (hrow : rowP (.inr (6, [.int 0, .int 0, .null])) fa 0 n h) (hn : n ≤ 200) : Met l y_Me_isWritten (.code y_Me_isWritten b_Me_isWritten 2 (some .boolean) :: lw_g) { frames := 0, cells := 0, slots := 0, locals := 0 } (hP (kE D t G ak av) D vwCl G h [.ref md, .int sx]) (hQi D vwCl G (fun r h' => r = 0 ∧ h = h')) 0 0 (fun q => G.size ≤ q) := by
  refine Met.ofW (cc := b_Me_isWritten) (maxL := 2) (ret := (some .boolean)) (by decide) rfl ?_
  intro p e s m args below meth c s₁ Bd hml hv
  obtain ⟨ha, hE, hH⟩ := hv
  have hx := Bd.exec
  have hb := Bd.bytes
  have hr := Bd.returns
  have hts : ∀ w ∈ lw_g, w.before args s = true := fun w hw => atoms_spec (ws := (.code y_Me_isWritten b_Me_isWritten 2 (some .boolean) :: lw_g)) Bd.pre w (List.mem_cons_of_mem _ hw)
  have hown : s.vm.findClass R_Me = some m.cls := findClass_of_methodNamed Bd.named
  have hlocks := Bd.notSynchronized
  have hK := hE.1
  have hH0 := hH
  have hLo : hLc G.size [] := hLc_nil
  have hz : s.heap.size ≤ s.heap.size := Nat.le_refl _
  have hkp : kp [] h h := kp_rf
  have hl := lv_entry [.ref md, .int sx] (n := 2) (Nat.le_of_ble_eq_true rfl)
  rw [show entryFrame m args 2 = F0 m 0 ((lg_sl [.ref md, .int sx] ++ List.replicate (2 - (lg_sl [.ref md, .int sx]).length) Slot.unset).toArray) [] from (by rw [ha]; exact lg_entry_eq m [.ref md, .int sx] 2)]
  generalize (lg_sl [.ref md, .int sx] ++ List.replicate (2 - (lg_sl [.ref md, .int sx]).length) Slot.unset).toArray = ls at hl ⊢
  have hl : lv_has ls 2 [(0, .ref md), (1, .int sx)] := hl
  refine lv_iload_n hx hb d_Me_isWritten_0 rfl (lv_at hl 1 rfl) ?_
  refine lv_if_lt (tgt := 30) hx hb d_Me_isWritten_1 (by decide) (fun hc1 => ?_) (fun hc1 => ?_)
  · skip
    refine lv_iconst (v := 0) hx hb d_Me_isWritten_30 (by decide) ?_
    exact W.zret (v := 0) hx hb hr (by decide) (fun t9 ht hW => ⟨0, h, rfl, ⟨rfl, rfl⟩, by rw [ht]; exact hH, by rw [ht]; exact hz⟩) hLo d_Me_isWritten_31
  · skip
    refine lv_iload_n hx hb d_Me_isWritten_4 rfl (lv_at hl 1 rfl) ?_
    refine lv_aload_n hx hb d_Me_isWritten_5 rfl (lv_at hl 0 rfl) ?_
    refine hm_get (ci := 0) (v := .ref sa) (C := R_Me) (T := F_Me) (N := 2) hx hb hts ig_Me hown hK hH f_md rfl 0 (by decide) (hts _ mw_28) (fun _ h9 => h9) rfl d_Me_isWritten_6 ?_
    refine hm_alen (v := nI n) hx hb hK hH 5 f_sa (ty := (.object "WriteOnceDisc$Sector")) rfl rfl d_Me_isWritten_9 ?_
    refine lv_icmp_ge (tgt := 30) hx hb d_Me_isWritten_10 (by decide) (fun hc2 => ?_) (fun hc2 => ?_)
    · skip
      refine lv_iconst (v := 0) hx hb d_Me_isWritten_30 (by decide) ?_
      exact W.zret (v := 0) hx hb hr (by decide) (fun t9 ht hW => ⟨0, h, rfl, ⟨rfl, rfl⟩, by rw [ht]; exact hH, by rw [ht]; exact hz⟩) hLo d_Me_isWritten_31
    · skip
      obtain ⟨j, hj, hje, -⟩ := pk_mu hc1 hc2 (by omega)
      obtain ⟨sc, hsc, f_sc⟩ := hrow.2 j (Nat.zero_le _) hj
      refine lv_aload_n hx hb d_Me_isWritten_13 rfl (lv_at hl 0 rfl) ?_
      refine hm_get (ci := 0) (v := .ref sa) (C := R_Me) (T := F_Me) (N := 2) hx hb hts ig_Me hown hK hH f_md rfl 0 (by decide) (hts _ mw_28) (fun _ h9 => h9) rfl d_Me_isWritten_14 ?_
      refine lv_iload_n hx hb d_Me_isWritten_17 rfl (lv_at hl 1 rfl) ?_
      refine hj_aald (v := .ref sc) hx hb hK hH 5 f_sa (C := R_Se) rfl j hje hj (by omega) (by rw [hsc]; rfl) d_Me_isWritten_18 ?_
      refine hm_get (ci := 6) (v := .int 0) (C := R_Se) (T := F_Se) (N := 3) hx hb hts ig_Se hown hK hH f_sc rfl 0 (by decide) (hts _ mw_179) (fun _ h9 => h9) rfl d_Me_isWritten_19 ?_
      refine lv_iconst (v := 1) hx hb d_Me_isWritten_22 (by decide) ?_
      refine lv_icmp_ne (tgt := 30) hx hb d_Me_isWritten_23 (by decide) (fun hc3 => ?_) (fun hc3 => absurd hc3 (by decide))
      refine lv_iconst (v := 0) hx hb d_Me_isWritten_30 (by decide) ?_
      exact W.zret (v := 0) hx hb hr (by decide) (fun t9 ht hW => ⟨0, h, rfl, ⟨rfl, rfl⟩, by rw [ht]; exact hH, by rw [ht]; exact hz⟩) hLo d_Me_isWritten_31

set_option maxHeartbeats 4000000 in
set_option maxRecDepth 100000 in
theorem c_Medium_change (l : Launch) (D : va_G) (t : Nat → ClassId) (G : Heap) (ak av : Nat → Nat) (h : hM) (md sa n : Nat) (fa : Nat → Option Nat) (a9 vv : Int32) (f_md : h md = some (.inr (0, [.ref sa, .int (nI 0)]))) (f_sa : h sa = some (.inl ((t 5), n, .inr (.inr (.inr (.inr fa)))))) (hrow : rowP (.inr (6, [.int 0, .int 0, .null])) fa 0 n h) (hn : n ≤ 200) : Met l y_Me_change (.code y_Me_change b_Me_change 5 (some .int) :: lw_g) { frames := 1, cells := 0, slots := 0, locals := 23 } (hP (kE D t G ak av) D vwCl G h [.ref md, .int a9, .int vv]) (hQi D vwCl G (fun r h' => r = -1 ∧ h = h')) 0 0 (fun q => G.size ≤ q) := by
  refine Met.ofW (cc := b_Me_change) (maxL := 5) (ret := (some .int)) (by decide) rfl ?_
  intro p e s m args below meth c s₁ Bd hml hv
  obtain ⟨ha, hE, hH⟩ := hv
  have hx := Bd.exec
  have hb := Bd.bytes
  have hr := Bd.returns
  have hts : ∀ w ∈ lw_g, w.before args s = true := fun w hw => atoms_spec (ws := (.code y_Me_change b_Me_change 5 (some .int) :: lw_g)) Bd.pre w (List.mem_cons_of_mem _ hw)
  have hown : s.vm.findClass R_Me = some m.cls := findClass_of_methodNamed Bd.named
  have hlocks := Bd.notSynchronized
  have hK := hE.1
  have hH0 := hH
  have hLo : hLc G.size [] := hLc_nil
  have hz : s.heap.size ≤ s.heap.size := Nat.le_refl _
  have hkp : kp [] h h := kp_rf
  have hl := lv_entry [.ref md, .int a9, .int vv] (n := 5) (Nat.le_of_ble_eq_true rfl)
  rw [show entryFrame m args 5 = F0 m 0 ((lg_sl [.ref md, .int a9, .int vv] ++ List.replicate (5 - (lg_sl [.ref md, .int a9, .int vv]).length) Slot.unset).toArray) [] from (by rw [ha]; exact lg_entry_eq m [.ref md, .int a9, .int vv] 5)]
  generalize (lg_sl [.ref md, .int a9, .int vv] ++ List.replicate (5 - (lg_sl [.ref md, .int a9, .int vv]).length) Slot.unset).toArray = ls at hl ⊢
  have hl : lv_has ls 5 [(0, .ref md), (1, .int a9), (2, .int vv)] := hl
  refine lv_aload_n hx hb d_Me_change_0 rfl (lv_at hl 0 rfl) ?_
  refine lv_iload_n hx hb d_Me_change_1 rfl (lv_at hl 1 rfl) ?_
  refine hm_calli (va_runV (As := [.int a9]) (b := md) (rest := []) ⟨hx, hb, hml, hown, hts⟩ (c_Medium_fetch l D t G ak av h md sa n fa a9 f_md f_sa hrow hn) ⟨cw9B 1 hts mw_296 mw_300 mw_163 rfl rfl (by decide +kernel) ⟨Nat.le_of_ble_eq_true rfl, Nat.le_of_ble_eq_true rfl⟩, hts _ mw_298, hts _ mw_299⟩ (hP_V (q := (R_Me, F_Me, 2)) kE_ok hE hK hH f_md rfl) rfl rfl hl.1 rfl (lv_room (Nat.le_of_ble_eq_true rfl)) d_Me_change_2 ⟨Nat.le_of_ble_eq_true rfl, Nat.le_of_ble_eq_true rfl⟩) hLo (fun r1 h2 H3 locs hp5 hH z4 hLo => ?_)
  have hz : s.heap.size ≤ H3.size := Nat.le_trans hz z4
  obtain ⟨rfl, rfl⟩ := hp5
  refine lv_istore_n (lv' := [(3, .int (bytV n a9)), (0, .ref md), (1, .int a9), (2, .int vv)]) hx hb d_Me_change_5 rfl hl (by decide) rfl (fun ls hl => ?_)
  refine lv_iload_n hx hb d_Me_change_6 rfl (lv_at hl 2 rfl) ?_
  refine lv_sipush (v := 2048) hx hb d_Me_change_7 (by decide) ?_
  refine lv_idiv hx hb d_Me_change_10 (by decide) ?_
  refine lv_istore (lv' := [(4, .int (a9 / 2048)), (3, .int (bytV n a9)), (0, .ref md), (1, .int a9), (2, .int vv)]) hx hb d_Me_change_11 hl (by decide) rfl (fun ls hl => ?_)
  refine lv_iload_n hx hb d_Me_change_13 rfl (lv_at hl 1 rfl) ?_
  refine lv_iconst (v := -1) hx hb d_Me_change_14 (by decide) ?_
  refine lv_icmp_eq (tgt := 40) hx hb d_Me_change_15 (by decide) (fun hc6 => ?_) (fun hc6 => ?_)
  · skip
    refine lv_iconst (v := -1) hx hb d_Me_change_40 (by decide) ?_
    exact W.iret (v := (-1)) hx hb hr (fun t9 ht hW => ⟨(-1), h, rfl, ⟨rfl, rfl⟩, by rw [ht]; exact hH, by rw [ht]; exact hz⟩) hLo d_Me_change_41
  · skip
    refine lv_aload_n hx hb d_Me_change_18 rfl (lv_at hl 2 rfl) ?_
    refine lv_iload hx hb d_Me_change_19 (lv_at hl 0 rfl) ?_
    refine hm_calli (va_runV (As := [.int (a9 / 2048)]) (b := md) (rest := []) ⟨hx, hb, hml, hown, hts⟩ (c_Medium_written l D t G ak av h md sa n fa (a9 / 2048) f_md f_sa hrow hn) ⟨cw9B 1 hts mw_301 mw_302 mw_163 rfl rfl (by decide +kernel) ⟨Nat.le_of_ble_eq_true rfl, Nat.le_of_ble_eq_true rfl⟩, hts _ mw_303, hts _ mw_304⟩ (hP_V (q := (R_Me, F_Me, 2)) kE_ok hE hK hH f_md rfl) rfl rfl hl.1 rfl (lv_room (Nat.le_of_ble_eq_true rfl)) d_Me_change_21 ⟨Nat.le_of_ble_eq_true rfl, Nat.le_of_ble_eq_true rfl⟩) hLo (fun r7 h8 H9 locs hp11 hH z10 hLo => ?_)
    have hz : s.heap.size ≤ H9.size := Nat.le_trans hz z10
    obtain ⟨rfl, rfl⟩ := hp11
    refine lv_if_eq (tgt := 40) hx hb d_Me_change_24 (by decide) (fun hc12 => ?_) (fun hc12 => absurd rfl hc12)
    refine lv_iconst (v := -1) hx hb d_Me_change_40 (by decide) ?_
    exact W.iret (v := (-1)) hx hb hr (fun t9 ht hW => ⟨(-1), h, rfl, ⟨rfl, rfl⟩, by rw [ht]; exact hH, by rw [ht]; exact hz⟩) hLo d_Me_change_41

set_option maxHeartbeats 4000000 in
set_option maxRecDepth 100000 in
theorem c_x_spoil (l : Launch) (D : va_G) (t : Nat → ClassId) (G : Heap) (ak av : Nat → Nat) (h : hM) (x n : Nat) (a9 vv : Int32) (hX : FrX t h x n) : Met l y_Di_spoil (.code y_Di_spoil b_Di_spoil 3 (some .int) :: lw_g) { frames := 2, cells := 0, slots := 0, locals := 47 } (hP (kE D t G ak av) D vwCl G h [.ref x, .int a9, .int vv]) (hQi D vwCl G (fun r h' => r = -1)) 0 0 (fun q => G.size ≤ q) := by
  refine Met.ofW (cc := b_Di_spoil) (maxL := 3) (ret := (some .int)) (by decide) rfl ?_
  intro p e s m args below meth c s₁ Bd hml hv
  obtain ⟨ha, hE, hH⟩ := hv
  have hx := Bd.exec
  have hb := Bd.bytes
  have hr := Bd.returns
  have hts : ∀ w ∈ lw_g, w.before args s = true := fun w hw => atoms_spec (ws := (.code y_Di_spoil b_Di_spoil 3 (some .int) :: lw_g)) Bd.pre w (List.mem_cons_of_mem _ hw)
  have hown : s.vm.findClass R_Di = some m.cls := findClass_of_methodNamed Bd.named
  have hlocks := Bd.notSynchronized
  have hK := hE.1
  have hH0 := hH
  have hLo : hLc G.size [] := hLc_nil
  have hz : s.heap.size ≤ s.heap.size := Nat.le_refl _
  have hkp : kp [] h h := kp_rf
  have hl := lv_entry [.ref x, .int a9, .int vv] (n := 3) (Nat.le_of_ble_eq_true rfl)
  rw [show entryFrame m args 3 = F0 m 0 ((lg_sl [.ref x, .int a9, .int vv] ++ List.replicate (3 - (lg_sl [.ref x, .int a9, .int vv]).length) Slot.unset).toArray) [] from (by rw [ha]; exact lg_entry_eq m [.ref x, .int a9, .int vv] 3)]
  generalize (lg_sl [.ref x, .int a9, .int vv] ++ List.replicate (3 - (lg_sl [.ref x, .int a9, .int vv]).length) Slot.unset).toArray = ls at hl ⊢
  have hl : lv_has ls 3 [(0, .ref x), (1, .int a9), (2, .int vv)] := hl
  obtain ⟨wr, rd, ns, op, sr, md, su, pg, pb, sl, od, sa, fs, g, fa, f_x, f_wr, f_su, f_pg, f_pb, f_ns, f_sl, f_od, hgf, hnd, f_md, f_sa, hrow, ne_sl_od, hn40, hn⟩ := hX
  obtain ⟨rt, hf0, f_rt⟩ := hnd.2 0 (by decide) (by decide)
  refine lv_aload_n hx hb d_Di_spoil_0 rfl (lv_at hl 0 rfl) ?_
  refine hm_get (ci := 8) (v := .ref md) (C := R_Di) (T := F_Di) (N := 9) hx hb hts ig_Di hown hK hH f_x rfl 3 (by decide) (hts _ mw_269) (fun _ h9 => h9) rfl d_Di_spoil_1 ?_
  refine lv_iload_n hx hb d_Di_spoil_4 rfl (lv_at hl 1 rfl) ?_
  refine lv_iload_n hx hb d_Di_spoil_5 rfl (lv_at hl 2 rfl) ?_
  refine hm_calli (va_runV (As := [.int a9, .int vv]) (b := md) (rest := []) ⟨hx, hb, hml, hown, hts⟩ (c_Medium_change l D t G ak av h md sa n fa a9 vv f_md f_sa hrow hn) ⟨cw9B 2 hts mw_305 mw_306 mw_163 rfl rfl (by decide +kernel) ⟨Nat.le_of_ble_eq_true rfl, Nat.le_of_ble_eq_true rfl⟩, hts _ mw_307, hts _ mw_308⟩ (hP_V (q := (R_Me, F_Me, 2)) kE_ok hE hK hH f_md rfl) rfl rfl hl.1 rfl (lv_room (Nat.le_of_ble_eq_true rfl)) d_Di_spoil_6 ⟨Nat.le_of_ble_eq_true rfl, Nat.le_of_ble_eq_true rfl⟩) hLo (fun r1 h2 H3 locs hp5 hH z4 hLo => ?_)
  have hz : s.heap.size ≤ H3.size := Nat.le_trans hz z4
  obtain ⟨rfl, rfl⟩ := hp5
  exact W.iret (v := (-1)) hx hb hr (fun t9 ht hW => ⟨(-1), h, rfl, rfl, by rw [ht]; exact hH, by rw [ht]; exact hz⟩) hLo d_Di_spoil_9

set_option maxHeartbeats 4000000 in
set_option maxRecDepth 100000 in
theorem c_Medium_somark (l : Launch) (D : va_G) (t : Nat → ClassId) (G : Heap) (ak av : Nat → Nat) (h : hM) (md sa n : Nat) (fa : Nat → Option Nat) (i9 : Int32) (f_md : h md = some (.inr (0, [.ref sa, .int (nI 0)]))) (f_sa : h sa = some (.inl ((t 5), n, .inr (.inr (.inr (.inr fa)))))) : Met l y_Me_sectorOfMark (.code y_Me_sectorOfMark b_Me_sectorOfMark 4 (some .int) :: lw_g) { frames := 0, cells := 0, slots := 0, locals := 0 } (hP (kE D t G ak av) D vwCl G h [.ref md, .int i9]) (hQi D vwCl G (fun r h' => r = -1 ∧ h = h')) 0 0 (fun q => G.size ≤ q) := by
  refine Met.ofW (cc := b_Me_sectorOfMark) (maxL := 4) (ret := (some .int)) (by decide) rfl ?_
  intro p e s m args below meth c s₁ Bd hml hv
  obtain ⟨ha, hE, hH⟩ := hv
  have hx := Bd.exec
  have hb := Bd.bytes
  have hr := Bd.returns
  have hts : ∀ w ∈ lw_g, w.before args s = true := fun w hw => atoms_spec (ws := (.code y_Me_sectorOfMark b_Me_sectorOfMark 4 (some .int) :: lw_g)) Bd.pre w (List.mem_cons_of_mem _ hw)
  have hown : s.vm.findClass R_Me = some m.cls := findClass_of_methodNamed Bd.named
  have hlocks := Bd.notSynchronized
  have hK := hE.1
  have hH0 := hH
  have hLo : hLc G.size [] := hLc_nil
  have hz : s.heap.size ≤ s.heap.size := Nat.le_refl _
  have hkp : kp [] h h := kp_rf
  have hl := lv_entry [.ref md, .int i9] (n := 4) (Nat.le_of_ble_eq_true rfl)
  rw [show entryFrame m args 4 = F0 m 0 ((lg_sl [.ref md, .int i9] ++ List.replicate (4 - (lg_sl [.ref md, .int i9]).length) Slot.unset).toArray) [] from (by rw [ha]; exact lg_entry_eq m [.ref md, .int i9] 4)]
  generalize (lg_sl [.ref md, .int i9] ++ List.replicate (4 - (lg_sl [.ref md, .int i9]).length) Slot.unset).toArray = ls at hl ⊢
  have hl : lv_has ls 4 [(0, .ref md), (1, .int i9)] := hl
  refine lv_iconst (v := 0) hx hb d_Me_sectorOfMark_0 (by decide) ?_
  refine lv_istore_n (lv' := [(2, .int 0), (0, .ref md), (1, .int i9)]) hx hb d_Me_sectorOfMark_1 rfl hl (by decide) rfl (fun ls hl => ?_)
  refine lv_iconst (v := 0) hx hb d_Me_sectorOfMark_2 (by decide) ?_
  refine lv_istore_n (lv' := [(3, .int 0), (2, .int 0), (0, .ref md), (1, .int i9)]) hx hb d_Me_sectorOfMark_3 rfl hl (by decide) rfl (fun ls hl => ?_)
  refine lv_iload_n hx hb d_Me_sectorOfMark_4 rfl (lv_at hl 0 rfl) ?_
  refine lv_aload_n hx hb d_Me_sectorOfMark_5 rfl (lv_at hl 2 rfl) ?_
  refine hm_get (ci := 0) (v := .int (nI 0)) (C := R_Me) (T := F_Me) (N := 2) hx hb hts ig_Me hown hK hH f_md rfl 1 (by decide) (hts _ mw_26) (fun _ h9 => h9) rfl d_Me_sectorOfMark_6 ?_
  refine lv_icmp_ge (tgt := 36) hx hb d_Me_sectorOfMark_9 (by decide) (fun hc1 => ?_) (fun hc1 => absurd (by decide) hc1)
  refine lv_iconst (v := -1) hx hb d_Me_sectorOfMark_36 (by decide) ?_
  exact W.iret (v := (-1)) hx hb hr (fun t9 ht hW => ⟨(-1), h, rfl, ⟨rfl, rfl⟩, by rw [ht]; exact hH, by rw [ht]; exact hz⟩) hLo d_Me_sectorOfMark_37

set_option maxHeartbeats 4000000 in
set_option maxRecDepth 100000 in
theorem c_x_open (l : Launch) (D : va_G) (t : Nat → ClassId) (G : Heap) (ak av : Nat → Nat) (h : hM) (x n : Nat) (i9 : Int32) (hX : FrX t h x n) : Met l y_Di_open (.code y_Di_open b_Di_open 5 (some .int) :: lw_g) { frames := 1, cells := 0, slots := 0, locals := 23 } (hP (kE D t G ak av) D vwCl G h [.ref x, .int i9]) (hQi D vwCl G (fun r h' => r = -1000000)) 0 0 (fun q => G.size ≤ q) := by
  refine Met.ofW (cc := b_Di_open) (maxL := 5) (ret := (some .int)) (by decide) rfl ?_
  intro p e s m args below meth c s₁ Bd hml hv
  obtain ⟨ha, hE, hH⟩ := hv
  have hx := Bd.exec
  have hb := Bd.bytes
  have hr := Bd.returns
  have hts : ∀ w ∈ lw_g, w.before args s = true := fun w hw => atoms_spec (ws := (.code y_Di_open b_Di_open 5 (some .int) :: lw_g)) Bd.pre w (List.mem_cons_of_mem _ hw)
  have hown : s.vm.findClass R_Di = some m.cls := findClass_of_methodNamed Bd.named
  have hlocks := Bd.notSynchronized
  have hK := hE.1
  have hH0 := hH
  have hLo : hLc G.size [] := hLc_nil
  have hz : s.heap.size ≤ s.heap.size := Nat.le_refl _
  have hkp : kp [] h h := kp_rf
  have hl := lv_entry [.ref x, .int i9] (n := 5) (Nat.le_of_ble_eq_true rfl)
  rw [show entryFrame m args 5 = F0 m 0 ((lg_sl [.ref x, .int i9] ++ List.replicate (5 - (lg_sl [.ref x, .int i9]).length) Slot.unset).toArray) [] from (by rw [ha]; exact lg_entry_eq m [.ref x, .int i9] 5)]
  generalize (lg_sl [.ref x, .int i9] ++ List.replicate (5 - (lg_sl [.ref x, .int i9]).length) Slot.unset).toArray = ls at hl ⊢
  have hl : lv_has ls 5 [(0, .ref x), (1, .int i9)] := hl
  obtain ⟨wr, rd, ns, op, sr, md, su, pg, pb, sl, od, sa, fs, g, fa, f_x, f_wr, f_su, f_pg, f_pb, f_ns, f_sl, f_od, hgf, hnd, f_md, f_sa, hrow, ne_sl_od, hn40, hn⟩ := hX
  obtain ⟨rt, hf0, f_rt⟩ := hnd.2 0 (by decide) (by decide)
  refine lv_aload_n hx hb d_Di_open_0 rfl (lv_at hl 0 rfl) ?_
  refine hm_get (ci := 8) (v := .ref md) (C := R_Di) (T := F_Di) (N := 9) hx hb hts ig_Di hown hK hH f_x rfl 3 (by decide) (hts _ mw_269) (fun _ h9 => h9) rfl d_Di_open_1 ?_
  refine lv_iload_n hx hb d_Di_open_4 rfl (lv_at hl 1 rfl) ?_
  refine hm_calli (va_runV (As := [.int i9]) (b := md) (rest := []) ⟨hx, hb, hml, hown, hts⟩ (c_Medium_somark l D t G ak av h md sa n fa i9 f_md f_sa) ⟨cw9B 1 hts mw_309 mw_310 mw_163 rfl rfl (by decide +kernel) ⟨Nat.le_of_ble_eq_true rfl, Nat.le_of_ble_eq_true rfl⟩, hts _ mw_311, hts _ mw_312⟩ (hP_V (q := (R_Me, F_Me, 2)) kE_ok hE hK hH f_md rfl) rfl rfl hl.1 rfl (lv_room (Nat.le_of_ble_eq_true rfl)) d_Di_open_5 ⟨Nat.le_of_ble_eq_true rfl, Nat.le_of_ble_eq_true rfl⟩) hLo (fun r1 h2 H3 locs hp5 hH z4 hLo => ?_)
  have hz : s.heap.size ≤ H3.size := Nat.le_trans hz z4
  obtain ⟨rfl, rfl⟩ := hp5
  refine lv_istore_n (lv' := [(2, .int (-1)), (0, .ref x), (1, .int i9)]) hx hb d_Di_open_8 rfl hl (by decide) rfl (fun ls hl => ?_)
  refine lv_iload_n hx hb d_Di_open_9 rfl (lv_at hl 0 rfl) ?_
  refine lv_iconst (v := -1) hx hb d_Di_open_10 (by decide) ?_
  refine lv_icmp_ne (tgt := 17) hx hb d_Di_open_11 (by decide) (fun hc6 => absurd rfl hc6) (fun hc6 => ?_)
  refine lv_ldc (v := -1000000) hx hb hown (hts _ mw_313) d_Di_open_14 ?_
  exact W.iret (v := (-1000000)) hx hb hr (fun t9 ht hW => ⟨(-1000000), h, rfl, rfl, by rw [ht]; exact hH, by rw [ht]; exact hz⟩) hLo d_Di_open_16

set_option maxHeartbeats 4000000 in
set_option maxRecDepth 100000 in
theorem c_x_replace (l : Launch) (D : va_G) (t : Nat → ClassId) (G : Heap) (ak av : Nat → Nat) (h : hM) (x n : Nat) (nu sz sd : Int32) (hX : FrX t h x n) : Met l y_Di_replace (.code y_Di_replace b_Di_replace 5 (some .int) :: lw_g) { frames := 1, cells := 0, slots := 0, locals := 22 } (hP (kE D t G ak av) D vwCl G h [.ref x, .int nu, .int sz, .int sd]) (hQi D vwCl G (fun r h' => r = -2)) 0 0 (fun q => G.size ≤ q) := by
  refine Met.ofW (cc := b_Di_replace) (maxL := 5) (ret := (some .int)) (by decide) rfl ?_
  intro p e s m args below meth c s₁ Bd hml hv
  obtain ⟨ha, hE, hH⟩ := hv
  have hx := Bd.exec
  have hb := Bd.bytes
  have hr := Bd.returns
  have hts : ∀ w ∈ lw_g, w.before args s = true := fun w hw => atoms_spec (ws := (.code y_Di_replace b_Di_replace 5 (some .int) :: lw_g)) Bd.pre w (List.mem_cons_of_mem _ hw)
  have hown : s.vm.findClass R_Di = some m.cls := findClass_of_methodNamed Bd.named
  have hlocks := Bd.notSynchronized
  have hK := hE.1
  have hH0 := hH
  have hLo : hLc G.size [] := hLc_nil
  have hz : s.heap.size ≤ s.heap.size := Nat.le_refl _
  have hkp : kp [] h h := kp_rf
  have hl := lv_entry [.ref x, .int nu, .int sz, .int sd] (n := 5) (Nat.le_of_ble_eq_true rfl)
  rw [show entryFrame m args 5 = F0 m 0 ((lg_sl [.ref x, .int nu, .int sz, .int sd] ++ List.replicate (5 - (lg_sl [.ref x, .int nu, .int sz, .int sd]).length) Slot.unset).toArray) [] from (by rw [ha]; exact lg_entry_eq m [.ref x, .int nu, .int sz, .int sd] 5)]
  generalize (lg_sl [.ref x, .int nu, .int sz, .int sd] ++ List.replicate (5 - (lg_sl [.ref x, .int nu, .int sz, .int sd]).length) Slot.unset).toArray = ls at hl ⊢
  have hl : lv_has ls 5 [(0, .ref x), (1, .int nu), (2, .int sz), (3, .int sd)] := hl
  obtain ⟨wr, rd, ns, op, sr, md, su, pg, pb, sl, od, sa, fs, g, fa, f_x, f_wr, f_su, f_pg, f_pb, f_ns, f_sl, f_od, hgf, hnd, f_md, f_sa, hrow, ne_sl_od, hn40, hn⟩ := hX
  obtain ⟨rt, hf0, f_rt⟩ := hnd.2 0 (by decide) (by decide)
  refine lv_aload_n hx hb d_Di_replace_0 rfl (lv_at hl 0 rfl) ?_
  refine hm_get (ci := 8) (v := .ref wr) (C := R_Di) (T := F_Di) (N := 9) hx hb hts ig_Di hown hK hH f_x rfl 0 (by decide) (hts _ mw_246) (fun _ h9 => h9) rfl d_Di_replace_1 ?_
  refine hm_get (ci := 7) (v := .ref su) (C := R_Wr) (T := F_Wr) (N := 2) hx hb hts ig_Wr hown hK hH f_wr rfl 0 (by decide) (hts _ mw_290) (fun _ h9 => h9) rfl d_Di_replace_4 ?_
  refine hm_get (ci := 4) (v := .int 0) (C := R_Po) (T := F_Po) (N := 3) hx hb hts ig_Po hown hK hH f_su rfl 1 (by decide) (hts _ mw_314) (fun _ h9 => h9) rfl d_Di_replace_7 ?_
  refine lv_if_eq (tgt := 16) hx hb d_Di_replace_10 (by decide) (fun hc1 => ?_) (fun hc1 => absurd rfl hc1)
  refine lv_aload_n hx hb d_Di_replace_16 rfl (lv_at hl 0 rfl) ?_
  refine hm_get (ci := 8) (v := .ref ns) (C := R_Di) (T := F_Di) (N := 9) hx hb hts ig_Di hown hK hH f_x rfl 2 (by decide) (hts _ mw_258) (fun _ h9 => h9) rfl d_Di_replace_17 ?_
  refine lv_iload_n hx hb d_Di_replace_20 rfl (lv_at hl 1 rfl) ?_
  by_cases hin : nu = 0
  · skip
    refine hm_callr (va_runV (As := [.int nu]) (b := ns) (rest := []) ⟨hx, hb, hml, hown, hts⟩ (c_Nodes_nodeOf l D t G ak av h ns sl od rt fs 0 1 nu f_ns f_sl f_rt hf0) ⟨cw9B 1 hts mw_274 mw_315 mw_187 rfl rfl (by decide +kernel) ⟨Nat.le_of_ble_eq_true rfl, Nat.le_of_ble_eq_true rfl⟩, hts _ mw_276, hts _ mw_277⟩ (hP_V (q := (R_Ns, F_Ns, 4)) kE_ok hE hK hH f_ns rfl) rfl rfl hl.1 rfl (lv_room (Nat.le_of_ble_eq_true rfl)) d_Di_replace_21 ⟨Nat.le_of_ble_eq_true rfl, Nat.le_of_ble_eq_true rfl⟩) hLo (fun r2 h3 H4 locs hp6 hH z5 hLo => ?_)
    have hz : s.heap.size ≤ H4.size := Nat.le_trans hz z5
    obtain ⟨hr9, rfl⟩ := hp6
    rw [if_pos hin] at hr9
    subst hr9
    refine W.eq (g2 := F0 m 24 ls [.ref rt]) rfl ?_
    refine lv_astore (lv' := [(4, .ref rt), (0, .ref x), (1, .int nu), (2, .int sz), (3, .int sd)]) hx hb d_Di_replace_24 hl (by decide) rfl (fun ls hl => ?_)
    refine lv_aload hx hb d_Di_replace_26 (lv_at hl 0 rfl) ?_
    refine lv_ifnull hx hb d_Di_replace_28 ?_
    refine lv_aload hx hb d_Di_replace_31 (lv_at hl 0 rfl) ?_
    refine hm_get (ci := 1) (v := .int 1) (C := R_No) (T := F_No) (N := 11) hx hb hts ig_No hown hK hH f_rt rfl 2 (by decide) (hts _ mw_316) (fun _ h9 => h9) rfl d_Di_replace_33 ?_
    refine lv_if_ne (tgt := 47) hx hb d_Di_replace_36 (by decide) (fun hc7 => ?_) (fun hc7 => absurd hc7 (by decide))
    refine lv_bipush (v := -2) hx hb d_Di_replace_47 (by decide) ?_
    exact W.iret (v := (-2)) hx hb hr (fun t9 ht hW => ⟨(-2), h, rfl, rfl, by rw [ht]; exact hH, by rw [ht]; exact hz⟩) hLo d_Di_replace_49
  · skip
    refine hm_callr (va_runV (As := [.int nu]) (b := ns) (rest := []) ⟨hx, hb, hml, hown, hts⟩ (c_Nodes_nodeOf l D t G ak av h ns sl od rt fs 0 1 nu f_ns f_sl f_rt hf0) ⟨cw9B 1 hts mw_274 mw_315 mw_187 rfl rfl (by decide +kernel) ⟨Nat.le_of_ble_eq_true rfl, Nat.le_of_ble_eq_true rfl⟩, hts _ mw_276, hts _ mw_277⟩ (hP_V (q := (R_Ns, F_Ns, 4)) kE_ok hE hK hH f_ns rfl) rfl rfl hl.1 rfl (lv_room (Nat.le_of_ble_eq_true rfl)) d_Di_replace_21 ⟨Nat.le_of_ble_eq_true rfl, Nat.le_of_ble_eq_true rfl⟩) hLo (fun r8 h9 H10 locs hp12 hH z11 hLo => ?_)
    have hz : s.heap.size ≤ H10.size := Nat.le_trans hz z11
    obtain ⟨hr9, rfl⟩ := hp12
    rw [if_neg hin] at hr9
    subst hr9
    refine W.eq (g2 := F0 m 24 ls [.null]) rfl ?_
    refine lv_astoreN (lv' := [(4, .null), (0, .ref x), (1, .int nu), (2, .int sz), (3, .int sd)]) hx hb d_Di_replace_24 hl (by decide) rfl (fun ls hl => ?_)
    refine lv_aloadN hx hb d_Di_replace_26 (lv_at hl 0 rfl) ?_
    refine lv_ifnullN (tgt := 47) hx hb d_Di_replace_28 (by decide) ?_
    refine lv_bipush (v := -2) hx hb d_Di_replace_47 (by decide) ?_
    exact W.iret (v := (-2)) hx hb hr (fun t9 ht hW => ⟨(-2), h, rfl, rfl, by rw [ht]; exact hH, by rw [ht]; exact hz⟩) hLo d_Di_replace_49

set_option maxHeartbeats 4000000 in
set_option maxRecDepth 100000 in
theorem c_x_remove (l : Launch) (D : va_G) (t : Nat → ClassId) (G : Heap) (ak av : Nat → Nat) (h : hM) (x n : Nat) (nu : Int32) (hX : FrX t h x n) : Met l y_Di_remove (.code y_Di_remove b_Di_remove 3 (some .int) :: lw_g) { frames := 1, cells := 0, slots := 0, locals := 22 } (hP (kE D t G ak av) D vwCl G h [.ref x, .int nu]) (hQi D vwCl G (fun r h' => r = -2)) 0 0 (fun q => G.size ≤ q) := by
  refine Met.ofW (cc := b_Di_remove) (maxL := 3) (ret := (some .int)) (by decide) rfl ?_
  intro p e s m args below meth c s₁ Bd hml hv
  obtain ⟨ha, hE, hH⟩ := hv
  have hx := Bd.exec
  have hb := Bd.bytes
  have hr := Bd.returns
  have hts : ∀ w ∈ lw_g, w.before args s = true := fun w hw => atoms_spec (ws := (.code y_Di_remove b_Di_remove 3 (some .int) :: lw_g)) Bd.pre w (List.mem_cons_of_mem _ hw)
  have hown : s.vm.findClass R_Di = some m.cls := findClass_of_methodNamed Bd.named
  have hlocks := Bd.notSynchronized
  have hK := hE.1
  have hH0 := hH
  have hLo : hLc G.size [] := hLc_nil
  have hz : s.heap.size ≤ s.heap.size := Nat.le_refl _
  have hkp : kp [] h h := kp_rf
  have hl := lv_entry [.ref x, .int nu] (n := 3) (Nat.le_of_ble_eq_true rfl)
  rw [show entryFrame m args 3 = F0 m 0 ((lg_sl [.ref x, .int nu] ++ List.replicate (3 - (lg_sl [.ref x, .int nu]).length) Slot.unset).toArray) [] from (by rw [ha]; exact lg_entry_eq m [.ref x, .int nu] 3)]
  generalize (lg_sl [.ref x, .int nu] ++ List.replicate (3 - (lg_sl [.ref x, .int nu]).length) Slot.unset).toArray = ls at hl ⊢
  have hl : lv_has ls 3 [(0, .ref x), (1, .int nu)] := hl
  obtain ⟨wr, rd, ns, op, sr, md, su, pg, pb, sl, od, sa, fs, g, fa, f_x, f_wr, f_su, f_pg, f_pb, f_ns, f_sl, f_od, hgf, hnd, f_md, f_sa, hrow, ne_sl_od, hn40, hn⟩ := hX
  obtain ⟨rt, hf0, f_rt⟩ := hnd.2 0 (by decide) (by decide)
  refine lv_aload_n hx hb d_Di_remove_0 rfl (lv_at hl 0 rfl) ?_
  refine hm_get (ci := 8) (v := .ref wr) (C := R_Di) (T := F_Di) (N := 9) hx hb hts ig_Di hown hK hH f_x rfl 0 (by decide) (hts _ mw_246) (fun _ h9 => h9) rfl d_Di_remove_1 ?_
  refine hm_get (ci := 7) (v := .ref su) (C := R_Wr) (T := F_Wr) (N := 2) hx hb hts ig_Wr hown hK hH f_wr rfl 0 (by decide) (hts _ mw_290) (fun _ h9 => h9) rfl d_Di_remove_4 ?_
  refine hm_get (ci := 4) (v := .int 0) (C := R_Po) (T := F_Po) (N := 3) hx hb hts ig_Po hown hK hH f_su rfl 1 (by decide) (hts _ mw_314) (fun _ h9 => h9) rfl d_Di_remove_7 ?_
  refine lv_if_eq (tgt := 16) hx hb d_Di_remove_10 (by decide) (fun hc1 => ?_) (fun hc1 => absurd rfl hc1)
  refine lv_aload_n hx hb d_Di_remove_16 rfl (lv_at hl 0 rfl) ?_
  refine hm_get (ci := 8) (v := .ref ns) (C := R_Di) (T := F_Di) (N := 9) hx hb hts ig_Di hown hK hH f_x rfl 2 (by decide) (hts _ mw_258) (fun _ h9 => h9) rfl d_Di_remove_17 ?_
  refine lv_iload_n hx hb d_Di_remove_20 rfl (lv_at hl 1 rfl) ?_
  by_cases hin : nu = 0
  · skip
    refine hm_callr (va_runV (As := [.int nu]) (b := ns) (rest := []) ⟨hx, hb, hml, hown, hts⟩ (c_Nodes_nodeOf l D t G ak av h ns sl od rt fs 0 1 nu f_ns f_sl f_rt hf0) ⟨cw9B 1 hts mw_274 mw_315 mw_187 rfl rfl (by decide +kernel) ⟨Nat.le_of_ble_eq_true rfl, Nat.le_of_ble_eq_true rfl⟩, hts _ mw_276, hts _ mw_277⟩ (hP_V (q := (R_Ns, F_Ns, 4)) kE_ok hE hK hH f_ns rfl) rfl rfl hl.1 rfl (lv_room (Nat.le_of_ble_eq_true rfl)) d_Di_remove_21 ⟨Nat.le_of_ble_eq_true rfl, Nat.le_of_ble_eq_true rfl⟩) hLo (fun r2 h3 H4 locs hp6 hH z5 hLo => ?_)
    have hz : s.heap.size ≤ H4.size := Nat.le_trans hz z5
    obtain ⟨hr9, rfl⟩ := hp6
    rw [if_pos hin] at hr9
    subst hr9
    refine W.eq (g2 := F0 m 24 ls [.ref rt]) rfl ?_
    refine lv_astore_n (lv' := [(2, .ref rt), (0, .ref x), (1, .int nu)]) hx hb d_Di_remove_24 rfl hl (by decide) rfl (fun ls hl => ?_)
    refine lv_aload_n hx hb d_Di_remove_25 rfl (lv_at hl 0 rfl) ?_
    refine lv_ifnull hx hb d_Di_remove_26 ?_
    refine lv_aload_n hx hb d_Di_remove_29 rfl (lv_at hl 0 rfl) ?_
    refine hm_get (ci := 1) (v := .null) (C := R_No) (T := F_No) (N := 11) hx hb hts ig_No hown hK hH f_rt rfl 1 (by decide) (hts _ mw_317) (fun _ h9 => h9) rfl d_Di_remove_30 ?_
    refine lv_ifnullN (tgt := 47) hx hb d_Di_remove_33 (by decide) ?_
    refine lv_bipush (v := -2) hx hb d_Di_remove_47 (by decide) ?_
    exact W.iret (v := (-2)) hx hb hr (fun t9 ht hW => ⟨(-2), h, rfl, rfl, by rw [ht]; exact hH, by rw [ht]; exact hz⟩) hLo d_Di_remove_49
  · skip
    refine hm_callr (va_runV (As := [.int nu]) (b := ns) (rest := []) ⟨hx, hb, hml, hown, hts⟩ (c_Nodes_nodeOf l D t G ak av h ns sl od rt fs 0 1 nu f_ns f_sl f_rt hf0) ⟨cw9B 1 hts mw_274 mw_315 mw_187 rfl rfl (by decide +kernel) ⟨Nat.le_of_ble_eq_true rfl, Nat.le_of_ble_eq_true rfl⟩, hts _ mw_276, hts _ mw_277⟩ (hP_V (q := (R_Ns, F_Ns, 4)) kE_ok hE hK hH f_ns rfl) rfl rfl hl.1 rfl (lv_room (Nat.le_of_ble_eq_true rfl)) d_Di_remove_21 ⟨Nat.le_of_ble_eq_true rfl, Nat.le_of_ble_eq_true rfl⟩) hLo (fun r7 h8 H9 locs hp11 hH z10 hLo => ?_)
    have hz : s.heap.size ≤ H9.size := Nat.le_trans hz z10
    obtain ⟨hr9, rfl⟩ := hp11
    rw [if_neg hin] at hr9
    subst hr9
    refine W.eq (g2 := F0 m 24 ls [.null]) rfl ?_
    refine lv_astore_nN (lv' := [(2, .null), (0, .ref x), (1, .int nu)]) hx hb d_Di_remove_24 rfl hl (by decide) rfl (fun ls hl => ?_)
    refine lv_aload_nN hx hb d_Di_remove_25 rfl (lv_at hl 0 rfl) ?_
    refine lv_ifnullN (tgt := 47) hx hb d_Di_remove_26 (by decide) ?_
    refine lv_bipush (v := -2) hx hb d_Di_remove_47 (by decide) ?_
    exact W.iret (v := (-2)) hx hb hr (fun t9 ht hW => ⟨(-2), h, rfl, rfl, by rw [ht]; exact hH, by rw [ht]; exact hz⟩) hLo d_Di_remove_49

set_option maxHeartbeats 4000000 in
set_option maxRecDepth 100000 in
theorem c_x_rename (l : Launch) (D : va_G) (t : Nat → ClassId) (G : Heap) (ak av : Nat → Nat) (h : hM) (x n : Nat) (nu nu2 : Int32) (wo : Int64) (hX : FrX t h x n) : Met l y_Di_rename (.code y_Di_rename b_Di_rename 9 (some .int) :: lw_g) { frames := 2, cells := 0, slots := 0, locals := 45 } (hP (kE D t G ak av) D vwCl G h [.ref x, .int nu, .int nu2, .long wo]) (hQi D vwCl G (fun r h' => r = -2)) 0 0 (fun q => G.size ≤ q) := by
  refine Met.ofW (cc := b_Di_rename) (maxL := 9) (ret := (some .int)) (by decide) rfl ?_
  intro p e s m args below meth c s₁ Bd hml hv
  obtain ⟨ha, hE, hH⟩ := hv
  have hx := Bd.exec
  have hb := Bd.bytes
  have hr := Bd.returns
  have hts : ∀ w ∈ lw_g, w.before args s = true := fun w hw => atoms_spec (ws := (.code y_Di_rename b_Di_rename 9 (some .int) :: lw_g)) Bd.pre w (List.mem_cons_of_mem _ hw)
  have hown : s.vm.findClass R_Di = some m.cls := findClass_of_methodNamed Bd.named
  have hlocks := Bd.notSynchronized
  have hK := hE.1
  have hH0 := hH
  have hLo : hLc G.size [] := hLc_nil
  have hz : s.heap.size ≤ s.heap.size := Nat.le_refl _
  have hkp : kp [] h h := kp_rf
  have hl := lv_entry [.ref x, .int nu, .int nu2, .long wo] (n := 9) (Nat.le_of_ble_eq_true rfl)
  rw [show entryFrame m args 9 = F0 m 0 ((lg_sl [.ref x, .int nu, .int nu2, .long wo] ++ List.replicate (9 - (lg_sl [.ref x, .int nu, .int nu2, .long wo]).length) Slot.unset).toArray) [] from (by rw [ha]; exact lg_entry_eq m [.ref x, .int nu, .int nu2, .long wo] 9)]
  generalize (lg_sl [.ref x, .int nu, .int nu2, .long wo] ++ List.replicate (9 - (lg_sl [.ref x, .int nu, .int nu2, .long wo]).length) Slot.unset).toArray = ls at hl ⊢
  have hl : lv_has ls 9 [(0, .ref x), (1, .int nu), (2, .int nu2), (3, .long wo)] := hl
  obtain ⟨wr, rd, ns, op, sr, md, su, pg, pb, sl, od, sa, fs, g, fa, f_x, f_wr, f_su, f_pg, f_pb, f_ns, f_sl, f_od, hgf, hnd, f_md, f_sa, hrow, ne_sl_od, hn40, hn⟩ := hX
  obtain ⟨rt, hf0, f_rt⟩ := hnd.2 0 (by decide) (by decide)
  refine lv_aload_n hx hb d_Di_rename_0 rfl (lv_at hl 0 rfl) ?_
  refine hm_get (ci := 8) (v := .ref wr) (C := R_Di) (T := F_Di) (N := 9) hx hb hts ig_Di hown hK hH f_x rfl 0 (by decide) (hts _ mw_246) (fun _ h9 => h9) rfl d_Di_rename_1 ?_
  refine hm_get (ci := 7) (v := .ref su) (C := R_Wr) (T := F_Wr) (N := 2) hx hb hts ig_Wr hown hK hH f_wr rfl 0 (by decide) (hts _ mw_290) (fun _ h9 => h9) rfl d_Di_rename_4 ?_
  refine hm_get (ci := 4) (v := .int 0) (C := R_Po) (T := F_Po) (N := 3) hx hb hts ig_Po hown hK hH f_su rfl 1 (by decide) (hts _ mw_314) (fun _ h9 => h9) rfl d_Di_rename_7 ?_
  refine lv_if_eq (tgt := 16) hx hb d_Di_rename_10 (by decide) (fun hc1 => ?_) (fun hc1 => absurd rfl hc1)
  refine lv_aload_n hx hb d_Di_rename_16 rfl (lv_at hl 0 rfl) ?_
  refine hm_get (ci := 8) (v := .ref ns) (C := R_Di) (T := F_Di) (N := 9) hx hb hts ig_Di hown hK hH f_x rfl 2 (by decide) (hts _ mw_258) (fun _ h9 => h9) rfl d_Di_rename_17 ?_
  refine lv_iload_n hx hb d_Di_rename_20 rfl (lv_at hl 1 rfl) ?_
  by_cases hin : nu = 0
  · skip
    refine hm_callr (va_runV (As := [.int nu]) (b := ns) (rest := []) ⟨hx, hb, hml, hown, hts⟩ (c_Nodes_nodeOf l D t G ak av h ns sl od rt fs 0 1 nu f_ns f_sl f_rt hf0) ⟨cw9B 1 hts mw_274 mw_315 mw_187 rfl rfl (by decide +kernel) ⟨Nat.le_of_ble_eq_true rfl, Nat.le_of_ble_eq_true rfl⟩, hts _ mw_276, hts _ mw_277⟩ (hP_V (q := (R_Ns, F_Ns, 4)) kE_ok hE hK hH f_ns rfl) rfl rfl hl.1 rfl (lv_room (Nat.le_of_ble_eq_true rfl)) d_Di_rename_21 ⟨Nat.le_of_ble_eq_true rfl, Nat.le_of_ble_eq_true rfl⟩) hLo (fun r2 h3 H4 locs hp6 hH z5 hLo => ?_)
    have hz : s.heap.size ≤ H4.size := Nat.le_trans hz z5
    obtain ⟨hr9, rfl⟩ := hp6
    rw [if_pos hin] at hr9
    subst hr9
    refine W.eq (g2 := F0 m 24 ls [.ref rt]) rfl ?_
    refine lv_astore (lv' := [(5, .ref rt), (0, .ref x), (1, .int nu), (2, .int nu2), (3, .long wo)]) hx hb d_Di_rename_24 hl (by decide) rfl (fun ls hl => ?_)
    refine lv_aload_n hx hb d_Di_rename_26 rfl (lv_at hl 1 rfl) ?_
    refine hm_get (ci := 8) (v := .ref ns) (C := R_Di) (T := F_Di) (N := 9) hx hb hts ig_Di hown hK hH f_x rfl 2 (by decide) (hts _ mw_258) (fun _ h9 => h9) rfl d_Di_rename_27 ?_
    refine lv_iload_n hx hb d_Di_rename_30 rfl (lv_at hl 3 rfl) ?_
    by_cases hin2 : nu2 = 0
    · skip
      refine hm_callr (va_runV (As := [.int nu2]) (b := ns) (rest := []) ⟨hx, hb, hml, hown, hts⟩ (c_Nodes_dirOf l D t G ak av h ns sl od rt fs 0 1 nu2 f_ns f_sl f_rt hf0) ⟨cw9B 1 hts mw_318 mw_319 mw_187 rfl rfl (by decide +kernel) ⟨Nat.le_of_ble_eq_true rfl, Nat.le_of_ble_eq_true rfl⟩, hts _ mw_320, hts _ mw_321⟩ (hP_V (q := (R_Ns, F_Ns, 4)) kE_ok hE hK hH f_ns rfl) rfl rfl hl.1 rfl (lv_room (Nat.le_of_ble_eq_true rfl)) d_Di_rename_31 ⟨Nat.le_of_ble_eq_true rfl, Nat.le_of_ble_eq_true rfl⟩) hLo (fun r7 h8 H9 locs hp11 hH z10 hLo => ?_)
      have hz : s.heap.size ≤ H9.size := Nat.le_trans hz z10
      obtain ⟨hr9, rfl⟩ := hp11
      rw [if_pos hin2] at hr9
      subst hr9
      refine W.eq (g2 := F0 m 34 ls [.ref rt]) rfl ?_
      refine lv_astore (lv' := [(6, .ref rt), (5, .ref rt), (0, .ref x), (1, .int nu), (2, .int nu2), (3, .long wo)]) hx hb d_Di_rename_34 hl (by decide) rfl (fun ls hl => ?_)
      refine lv_lload_n hx hb d_Di_rename_36 rfl (lv_at hl 5 rfl) ?_
      refine hm_calll (va_runS (As := [.long wo]) (rest := []) ⟨hx, hb, hml, hown, hts⟩ (c_Di_nameIn l D t G ak av h wo) ⟨cw9B 1 hts mw_322 mw_323 mw_121 rfl rfl (by decide +kernel) ⟨Nat.le_of_ble_eq_true rfl, Nat.le_of_ble_eq_true rfl⟩, hts _ mw_324⟩ (hP_S kE_ok hE hH) rfl rfl hl.1 rfl (lv_room (Nat.le_of_ble_eq_true rfl)) d_Di_rename_37 ⟨Nat.le_of_ble_eq_true rfl, Nat.le_of_ble_eq_true rfl⟩) hLo (fun r12 h13 H14 locs hp16 hH z15 hLo => ?_)
      have hz : s.heap.size ≤ H14.size := Nat.le_trans hz z15
      obtain ⟨rfl, rfl⟩ := hp16
      refine lv_lstore (lv' := [(7, .long (tlV wo)), (6, .ref rt), (5, .ref rt), (0, .ref x), (1, .int nu), (2, .int nu2), (3, .long wo)]) hx hb d_Di_rename_40 hl (by decide) rfl (fun ls hl => ?_)
      refine lv_aload hx hb d_Di_rename_42 (lv_at hl 2 rfl) ?_
      refine lv_ifnull hx hb d_Di_rename_44 ?_
      refine lv_aload hx hb d_Di_rename_47 (lv_at hl 2 rfl) ?_
      refine hm_get (ci := 1) (v := .null) (C := R_No) (T := F_No) (N := 11) hx hb hts ig_No hown hK hH f_rt rfl 1 (by decide) (hts _ mw_317) (fun _ h9 => h9) rfl d_Di_rename_49 ?_
      refine lv_ifnullN (tgt := 67) hx hb d_Di_rename_52 (by decide) ?_
      refine lv_bipush (v := -2) hx hb d_Di_rename_67 (by decide) ?_
      exact W.iret (v := (-2)) hx hb hr (fun t9 ht hW => ⟨(-2), h, rfl, rfl, by rw [ht]; exact hH, by rw [ht]; exact hz⟩) hLo d_Di_rename_69
    · skip
      refine hm_callr (va_runV (As := [.int nu2]) (b := ns) (rest := []) ⟨hx, hb, hml, hown, hts⟩ (c_Nodes_dirOf l D t G ak av h ns sl od rt fs 0 1 nu2 f_ns f_sl f_rt hf0) ⟨cw9B 1 hts mw_318 mw_319 mw_187 rfl rfl (by decide +kernel) ⟨Nat.le_of_ble_eq_true rfl, Nat.le_of_ble_eq_true rfl⟩, hts _ mw_320, hts _ mw_321⟩ (hP_V (q := (R_Ns, F_Ns, 4)) kE_ok hE hK hH f_ns rfl) rfl rfl hl.1 rfl (lv_room (Nat.le_of_ble_eq_true rfl)) d_Di_rename_31 ⟨Nat.le_of_ble_eq_true rfl, Nat.le_of_ble_eq_true rfl⟩) hLo (fun r17 h18 H19 locs hp21 hH z20 hLo => ?_)
      have hz : s.heap.size ≤ H19.size := Nat.le_trans hz z20
      obtain ⟨hr9, rfl⟩ := hp21
      rw [if_neg hin2] at hr9
      subst hr9
      refine W.eq (g2 := F0 m 34 ls [.null]) rfl ?_
      refine lv_astoreN (lv' := [(6, .null), (5, .ref rt), (0, .ref x), (1, .int nu), (2, .int nu2), (3, .long wo)]) hx hb d_Di_rename_34 hl (by decide) rfl (fun ls hl => ?_)
      refine lv_lload_n hx hb d_Di_rename_36 rfl (lv_at hl 5 rfl) ?_
      refine hm_calll (va_runS (As := [.long wo]) (rest := []) ⟨hx, hb, hml, hown, hts⟩ (c_Di_nameIn l D t G ak av h wo) ⟨cw9B 1 hts mw_322 mw_323 mw_121 rfl rfl (by decide +kernel) ⟨Nat.le_of_ble_eq_true rfl, Nat.le_of_ble_eq_true rfl⟩, hts _ mw_324⟩ (hP_S kE_ok hE hH) rfl rfl hl.1 rfl (lv_room (Nat.le_of_ble_eq_true rfl)) d_Di_rename_37 ⟨Nat.le_of_ble_eq_true rfl, Nat.le_of_ble_eq_true rfl⟩) hLo (fun r22 h23 H24 locs hp26 hH z25 hLo => ?_)
      have hz : s.heap.size ≤ H24.size := Nat.le_trans hz z25
      obtain ⟨rfl, rfl⟩ := hp26
      refine lv_lstore (lv' := [(7, .long (tlV wo)), (6, .null), (5, .ref rt), (0, .ref x), (1, .int nu), (2, .int nu2), (3, .long wo)]) hx hb d_Di_rename_40 hl (by decide) rfl (fun ls hl => ?_)
      refine lv_aload hx hb d_Di_rename_42 (lv_at hl 2 rfl) ?_
      refine lv_ifnull hx hb d_Di_rename_44 ?_
      refine lv_aload hx hb d_Di_rename_47 (lv_at hl 2 rfl) ?_
      refine hm_get (ci := 1) (v := .null) (C := R_No) (T := F_No) (N := 11) hx hb hts ig_No hown hK hH f_rt rfl 1 (by decide) (hts _ mw_317) (fun _ h9 => h9) rfl d_Di_rename_49 ?_
      refine lv_ifnullN (tgt := 67) hx hb d_Di_rename_52 (by decide) ?_
      refine lv_bipush (v := -2) hx hb d_Di_rename_67 (by decide) ?_
      exact W.iret (v := (-2)) hx hb hr (fun t9 ht hW => ⟨(-2), h, rfl, rfl, by rw [ht]; exact hH, by rw [ht]; exact hz⟩) hLo d_Di_rename_69
  · skip
    refine hm_callr (va_runV (As := [.int nu]) (b := ns) (rest := []) ⟨hx, hb, hml, hown, hts⟩ (c_Nodes_nodeOf l D t G ak av h ns sl od rt fs 0 1 nu f_ns f_sl f_rt hf0) ⟨cw9B 1 hts mw_274 mw_315 mw_187 rfl rfl (by decide +kernel) ⟨Nat.le_of_ble_eq_true rfl, Nat.le_of_ble_eq_true rfl⟩, hts _ mw_276, hts _ mw_277⟩ (hP_V (q := (R_Ns, F_Ns, 4)) kE_ok hE hK hH f_ns rfl) rfl rfl hl.1 rfl (lv_room (Nat.le_of_ble_eq_true rfl)) d_Di_rename_21 ⟨Nat.le_of_ble_eq_true rfl, Nat.le_of_ble_eq_true rfl⟩) hLo (fun r27 h28 H29 locs hp31 hH z30 hLo => ?_)
    have hz : s.heap.size ≤ H29.size := Nat.le_trans hz z30
    obtain ⟨hr9, rfl⟩ := hp31
    rw [if_neg hin] at hr9
    subst hr9
    refine W.eq (g2 := F0 m 24 ls [.null]) rfl ?_
    refine lv_astoreN (lv' := [(5, .null), (0, .ref x), (1, .int nu), (2, .int nu2), (3, .long wo)]) hx hb d_Di_rename_24 hl (by decide) rfl (fun ls hl => ?_)
    refine lv_aload_n hx hb d_Di_rename_26 rfl (lv_at hl 1 rfl) ?_
    refine hm_get (ci := 8) (v := .ref ns) (C := R_Di) (T := F_Di) (N := 9) hx hb hts ig_Di hown hK hH f_x rfl 2 (by decide) (hts _ mw_258) (fun _ h9 => h9) rfl d_Di_rename_27 ?_
    refine lv_iload_n hx hb d_Di_rename_30 rfl (lv_at hl 3 rfl) ?_
    by_cases hin2 : nu2 = 0
    · skip
      refine hm_callr (va_runV (As := [.int nu2]) (b := ns) (rest := []) ⟨hx, hb, hml, hown, hts⟩ (c_Nodes_dirOf l D t G ak av h ns sl od rt fs 0 1 nu2 f_ns f_sl f_rt hf0) ⟨cw9B 1 hts mw_318 mw_319 mw_187 rfl rfl (by decide +kernel) ⟨Nat.le_of_ble_eq_true rfl, Nat.le_of_ble_eq_true rfl⟩, hts _ mw_320, hts _ mw_321⟩ (hP_V (q := (R_Ns, F_Ns, 4)) kE_ok hE hK hH f_ns rfl) rfl rfl hl.1 rfl (lv_room (Nat.le_of_ble_eq_true rfl)) d_Di_rename_31 ⟨Nat.le_of_ble_eq_true rfl, Nat.le_of_ble_eq_true rfl⟩) hLo (fun r32 h33 H34 locs hp36 hH z35 hLo => ?_)
      have hz : s.heap.size ≤ H34.size := Nat.le_trans hz z35
      obtain ⟨hr9, rfl⟩ := hp36
      rw [if_pos hin2] at hr9
      subst hr9
      refine W.eq (g2 := F0 m 34 ls [.ref rt]) rfl ?_
      refine lv_astore (lv' := [(6, .ref rt), (5, .null), (0, .ref x), (1, .int nu), (2, .int nu2), (3, .long wo)]) hx hb d_Di_rename_34 hl (by decide) rfl (fun ls hl => ?_)
      refine lv_lload_n hx hb d_Di_rename_36 rfl (lv_at hl 5 rfl) ?_
      refine hm_calll (va_runS (As := [.long wo]) (rest := []) ⟨hx, hb, hml, hown, hts⟩ (c_Di_nameIn l D t G ak av h wo) ⟨cw9B 1 hts mw_322 mw_323 mw_121 rfl rfl (by decide +kernel) ⟨Nat.le_of_ble_eq_true rfl, Nat.le_of_ble_eq_true rfl⟩, hts _ mw_324⟩ (hP_S kE_ok hE hH) rfl rfl hl.1 rfl (lv_room (Nat.le_of_ble_eq_true rfl)) d_Di_rename_37 ⟨Nat.le_of_ble_eq_true rfl, Nat.le_of_ble_eq_true rfl⟩) hLo (fun r37 h38 H39 locs hp41 hH z40 hLo => ?_)
      have hz : s.heap.size ≤ H39.size := Nat.le_trans hz z40
      obtain ⟨rfl, rfl⟩ := hp41
      refine lv_lstore (lv' := [(7, .long (tlV wo)), (6, .ref rt), (5, .null), (0, .ref x), (1, .int nu), (2, .int nu2), (3, .long wo)]) hx hb d_Di_rename_40 hl (by decide) rfl (fun ls hl => ?_)
      refine lv_aloadN hx hb d_Di_rename_42 (lv_at hl 2 rfl) ?_
      refine lv_ifnullN (tgt := 67) hx hb d_Di_rename_44 (by decide) ?_
      refine lv_bipush (v := -2) hx hb d_Di_rename_67 (by decide) ?_
      exact W.iret (v := (-2)) hx hb hr (fun t9 ht hW => ⟨(-2), h, rfl, rfl, by rw [ht]; exact hH, by rw [ht]; exact hz⟩) hLo d_Di_rename_69
    · skip
      refine hm_callr (va_runV (As := [.int nu2]) (b := ns) (rest := []) ⟨hx, hb, hml, hown, hts⟩ (c_Nodes_dirOf l D t G ak av h ns sl od rt fs 0 1 nu2 f_ns f_sl f_rt hf0) ⟨cw9B 1 hts mw_318 mw_319 mw_187 rfl rfl (by decide +kernel) ⟨Nat.le_of_ble_eq_true rfl, Nat.le_of_ble_eq_true rfl⟩, hts _ mw_320, hts _ mw_321⟩ (hP_V (q := (R_Ns, F_Ns, 4)) kE_ok hE hK hH f_ns rfl) rfl rfl hl.1 rfl (lv_room (Nat.le_of_ble_eq_true rfl)) d_Di_rename_31 ⟨Nat.le_of_ble_eq_true rfl, Nat.le_of_ble_eq_true rfl⟩) hLo (fun r42 h43 H44 locs hp46 hH z45 hLo => ?_)
      have hz : s.heap.size ≤ H44.size := Nat.le_trans hz z45
      obtain ⟨hr9, rfl⟩ := hp46
      rw [if_neg hin2] at hr9
      subst hr9
      refine W.eq (g2 := F0 m 34 ls [.null]) rfl ?_
      refine lv_astoreN (lv' := [(6, .null), (5, .null), (0, .ref x), (1, .int nu), (2, .int nu2), (3, .long wo)]) hx hb d_Di_rename_34 hl (by decide) rfl (fun ls hl => ?_)
      refine lv_lload_n hx hb d_Di_rename_36 rfl (lv_at hl 5 rfl) ?_
      refine hm_calll (va_runS (As := [.long wo]) (rest := []) ⟨hx, hb, hml, hown, hts⟩ (c_Di_nameIn l D t G ak av h wo) ⟨cw9B 1 hts mw_322 mw_323 mw_121 rfl rfl (by decide +kernel) ⟨Nat.le_of_ble_eq_true rfl, Nat.le_of_ble_eq_true rfl⟩, hts _ mw_324⟩ (hP_S kE_ok hE hH) rfl rfl hl.1 rfl (lv_room (Nat.le_of_ble_eq_true rfl)) d_Di_rename_37 ⟨Nat.le_of_ble_eq_true rfl, Nat.le_of_ble_eq_true rfl⟩) hLo (fun r47 h48 H49 locs hp51 hH z50 hLo => ?_)
      have hz : s.heap.size ≤ H49.size := Nat.le_trans hz z50
      obtain ⟨rfl, rfl⟩ := hp51
      refine lv_lstore (lv' := [(7, .long (tlV wo)), (6, .null), (5, .null), (0, .ref x), (1, .int nu), (2, .int nu2), (3, .long wo)]) hx hb d_Di_rename_40 hl (by decide) rfl (fun ls hl => ?_)
      refine lv_aloadN hx hb d_Di_rename_42 (lv_at hl 2 rfl) ?_
      refine lv_ifnullN (tgt := 67) hx hb d_Di_rename_44 (by decide) ?_
      refine lv_bipush (v := -2) hx hb d_Di_rename_67 (by decide) ?_
      exact W.iret (v := (-2)) hx hb hr (fun t9 ht hW => ⟨(-2), h, rfl, rfl, by rw [ht]; exact hH, by rw [ht]; exact hz⟩) hLo d_Di_rename_69
end
section
set_option maxRecDepth 100000 in
theorem mw_325 : Cond.code y_Ns_hasOtherNamed b_Ns_hasOtherNamed 6 (some .boolean) ∈ lw_g := lw_gin (List.mem_append_right _ (List.mem_of_getElem? (i := 309) rfl)) (by decide +kernel)
set_option maxRecDepth 100000 in
theorem mw_326 : Cond.methodLink R_Di 123 y_Ns_hasOtherNamed ∈ lw_g := lw_gin (List.mem_append_right _ (List.mem_of_getElem? (i := 306) rfl)) (by decide +kernel)
set_option maxRecDepth 100000 in
theorem mw_327 : Cond.instanceMethod y_Ns_hasOtherNamed ∈ lw_g := lw_gin (List.mem_append_right _ (List.mem_of_getElem? (i := 307) rfl)) (by decide +kernel)
set_option maxRecDepth 100000 in
theorem mw_328 : Cond.selects R_Ns y_Ns_hasOtherNamed y_Ns_hasOtherNamed ∈ lw_g := lw_gin (List.mem_append_right _ (List.mem_of_getElem? (i := 308) rfl)) (by decide +kernel)
set_option maxRecDepth 100000 in
theorem mw_329 : Cond.code y_Ns_append b_Ns_append 2 (some (.object "WriteOnceDisc$Node")) ∈ lw_g := lw_gin (List.mem_append_right _ (List.mem_of_getElem? (i := 313) rfl)) (by decide +kernel)
set_option maxRecDepth 100000 in
theorem mw_330 : Cond.methodLink R_Di 230 y_Ns_append ∈ lw_g := lw_gin (List.mem_append_right _ (List.mem_of_getElem? (i := 310) rfl)) (by decide +kernel)
set_option maxRecDepth 100000 in
theorem mw_331 : Cond.instanceMethod y_Ns_append ∈ lw_g := lw_gin (List.mem_append_right _ (List.mem_of_getElem? (i := 311) rfl)) (by decide +kernel)
set_option maxRecDepth 100000 in
theorem mw_332 : Cond.selects R_Ns y_Ns_append y_Ns_append ∈ lw_g := lw_gin (List.mem_append_right _ (List.mem_of_getElem? (i := 312) rfl)) (by decide +kernel)
set_option maxRecDepth 100000 in
theorem mw_333 : Cond.code y_No_become b_No_become 5 none ∈ lw_g := lw_gin (List.mem_append_right _ (List.mem_of_getElem? (i := 317) rfl)) (by decide +kernel)
set_option maxRecDepth 100000 in
theorem mw_334 : Cond.methodLink R_Di 234 y_No_become ∈ lw_g := lw_gin (List.mem_append_right _ (List.mem_of_getElem? (i := 314) rfl)) (by decide +kernel)
set_option maxRecDepth 100000 in
theorem mw_335 : Cond.instanceMethod y_No_become ∈ lw_g := lw_gin (List.mem_append_right _ (List.mem_of_getElem? (i := 315) rfl)) (by decide +kernel)
set_option maxRecDepth 100000 in
theorem mw_336 : Cond.selects R_No y_No_become y_No_become ∈ lw_g := lw_gin (List.mem_append_right _ (List.mem_of_getElem? (i := 316) rfl)) (by decide +kernel)
set_option maxRecDepth 100000 in
theorem mw_337 : Cond.fieldLink R_Di 238 "WriteOnceDisc$Node" "number" "I" ∈ lw_g := lw_gin (List.mem_append_right _ (List.mem_of_getElem? (i := 92) rfl)) (by decide +kernel)
set_option maxRecDepth 100000 in
theorem mw_338 : Cond.code y_No_depth b_No_depth 3 (some .int) ∈ lw_g := lw_gin (List.mem_append_right _ (List.mem_of_getElem? (i := 295) rfl)) (by decide +kernel)
set_option maxRecDepth 100000 in
theorem mw_339 : Cond.methodLink R_Di 76 y_No_depth ∈ lw_g := lw_gin (List.mem_append_right _ (List.mem_of_getElem? (i := 292) rfl)) (by decide +kernel)
set_option maxRecDepth 100000 in
theorem mw_340 : Cond.instanceMethod y_No_depth ∈ lw_g := lw_gin (List.mem_append_right _ (List.mem_of_getElem? (i := 293) rfl)) (by decide +kernel)
set_option maxRecDepth 100000 in
theorem mw_341 : Cond.selects R_No y_No_depth y_No_depth ∈ lw_g := lw_gin (List.mem_append_right _ (List.mem_of_getElem? (i := 294) rfl)) (by decide +kernel)
set_option maxRecDepth 100000 in
theorem mw_342 : Cond.code y_Di_added b_Di_added 8 (some .int) ∈ lw_g := lw_gin (List.mem_append_right _ (List.mem_of_getElem? (i := 299) rfl)) (by decide +kernel)
set_option maxRecDepth 100000 in
theorem mw_343 : Cond.methodLink R_Di 82 y_Di_added ∈ lw_g := lw_gin (List.mem_append_right _ (List.mem_of_getElem? (i := 296) rfl)) (by decide +kernel)
set_option maxRecDepth 100000 in
theorem mw_344 : Cond.instanceMethod y_Di_added ∈ lw_g := lw_gin (List.mem_append_right _ (List.mem_of_getElem? (i := 298) rfl)) (by decide +kernel)
set_option maxRecDepth 100000 in
theorem mw_345 : Cond.selects R_Di y_Di_added y_Di_added ∈ lw_g := lw_gin (List.mem_append_left _ (List.mem_of_getElem? (i := 0) rfl)) (by decide +kernel)
set_option maxRecDepth 100000 in
theorem mw_346 : Cond.code y_Di_isContent b_Di_isContent 2 (some .boolean) ∈ lw_g := lw_gin (List.mem_append_right _ (List.mem_of_getElem? (i := 332) rfl)) (by decide +kernel)
set_option maxRecDepth 100000 in
theorem mw_347 : Cond.methodLink R_Di 86 y_Di_isContent ∈ lw_g := lw_gin (List.mem_append_right _ (List.mem_of_getElem? (i := 330) rfl)) (by decide +kernel)
set_option maxRecDepth 100000 in
theorem mw_348 : Cond.static y_Di_isContent ∈ lw_g := lw_gin (List.mem_append_right _ (List.mem_of_getElem? (i := 331) rfl)) (by decide +kernel)
set_option maxRecDepth 100000 in
theorem mw_349 : Cond.methodLink R_Di 93 y_No_takeContent ∈ lw_g := lw_gin (List.mem_append_right _ (List.mem_of_getElem? (i := 334) rfl)) (by decide +kernel)
theorem d_Di_added_0 : decode b_Di_added 0 = .ok (.lload_n 3, 1) := by decide +kernel
theorem d_Di_added_1 : decode b_Di_added 1 = .ok (.invokestatic 112, 3) := by decide +kernel
theorem d_Di_added_4 : decode b_Di_added 4 = .ok (.lstore 5, 2) := by decide +kernel
theorem d_Di_added_6 : decode b_Di_added 6 = .ok (.lload 5, 2) := by decide +kernel
theorem d_Di_added_8 : decode b_Di_added 8 = .ok (.lconst 0, 1) := by decide +kernel
theorem d_Di_added_9 : decode b_Di_added 9 = .ok (.lcmp, 1) := by decide +kernel
theorem d_Di_added_10 : decode b_Di_added 10 = .ok (.ifCond .ne 6, 3) := by decide +kernel
theorem d_Di_added_16 : decode b_Di_added 16 = .ok (.aload_n 0, 1) := by decide +kernel
theorem d_Di_added_17 : decode b_Di_added 17 = .ok (.getfield 26, 3) := by decide +kernel
theorem d_Di_added_20 : decode b_Di_added 20 = .ok (.aload_n 1, 1) := by decide +kernel
theorem d_Di_added_21 : decode b_Di_added 21 = .ok (.lload 5, 2) := by decide +kernel
theorem d_Di_added_23 : decode b_Di_added 23 = .ok (.aconst_null, 1) := by decide +kernel
theorem d_Di_added_24 : decode b_Di_added 24 = .ok (.invokevirtual 123, 3) := by decide +kernel
theorem d_Di_added_27 : decode b_Di_added 27 = .ok (.ifCond .eq 6, 3) := by decide +kernel
theorem d_Di_added_33 : decode b_Di_added 33 = .ok (.aload_n 0, 1) := by decide +kernel
theorem d_Di_added_34 : decode b_Di_added 34 = .ok (.getfield 26, 3) := by decide +kernel
theorem d_Di_added_37 : decode b_Di_added 37 = .ok (.invokevirtual 230, 3) := by decide +kernel
theorem d_Di_added_40 : decode b_Di_added 40 = .ok (.astore 7, 2) := by decide +kernel
theorem d_Di_added_42 : decode b_Di_added 42 = .ok (.aload 7, 2) := by decide +kernel
theorem d_Di_added_44 : decode b_Di_added 44 = .ok (.ifnonnull 6, 3) := by decide +kernel
theorem d_Di_added_50 : decode b_Di_added 50 = .ok (.aload 7, 2) := by decide +kernel
theorem d_Di_added_52 : decode b_Di_added 52 = .ok (.aload_n 1, 1) := by decide +kernel
theorem d_Di_added_53 : decode b_Di_added 53 = .ok (.iload_n 2, 1) := by decide +kernel
theorem d_Di_added_54 : decode b_Di_added 54 = .ok (.lload 5, 2) := by decide +kernel
theorem d_Di_added_56 : decode b_Di_added 56 = .ok (.invokevirtual 234, 3) := by decide +kernel
theorem d_Di_added_59 : decode b_Di_added 59 = .ok (.aload 7, 2) := by decide +kernel
theorem d_Di_added_61 : decode b_Di_added 61 = .ok (.getfield 238, 3) := by decide +kernel
theorem d_Di_added_64 : decode b_Di_added 64 = .ok (.ireturn, 1) := by decide +kernel
theorem d_Di_added_13 : decode b_Di_added 13 = .ok (.bipush (-2), 2) := by decide +kernel
theorem d_Di_added_15 : decode b_Di_added 15 = .ok (.ireturn, 1) := by decide +kernel
theorem d_Di_directory_0 : decode b_Di_directory 0 = .ok (.aload_n 0, 1) := by decide +kernel
theorem d_Di_directory_1 : decode b_Di_directory 1 = .ok (.getfield 10, 3) := by decide +kernel
theorem d_Di_directory_4 : decode b_Di_directory 4 = .ok (.getfield 60, 3) := by decide +kernel
theorem d_Di_directory_7 : decode b_Di_directory 7 = .ok (.getfield 69, 3) := by decide +kernel
theorem d_Di_directory_10 : decode b_Di_directory 10 = .ok (.ifCond .eq 6, 3) := by decide +kernel
theorem d_Di_directory_16 : decode b_Di_directory 16 = .ok (.aload_n 0, 1) := by decide +kernel
theorem d_Di_directory_17 : decode b_Di_directory 17 = .ok (.getfield 26, 3) := by decide +kernel
theorem d_Di_directory_20 : decode b_Di_directory 20 = .ok (.iload_n 1, 1) := by decide +kernel
theorem d_Di_directory_21 : decode b_Di_directory 21 = .ok (.invokevirtual 72, 3) := by decide +kernel
theorem d_Di_directory_24 : decode b_Di_directory 24 = .ok (.astore 4, 2) := by decide +kernel
theorem d_Di_directory_26 : decode b_Di_directory 26 = .ok (.aload 4, 2) := by decide +kernel
theorem d_Di_directory_28 : decode b_Di_directory 28 = .ok (.ifnull 13, 3) := by decide +kernel
theorem d_Di_directory_31 : decode b_Di_directory 31 = .ok (.aload 4, 2) := by decide +kernel
theorem d_Di_directory_33 : decode b_Di_directory 33 = .ok (.invokevirtual 76, 3) := by decide +kernel
theorem d_Di_directory_36 : decode b_Di_directory 36 = .ok (.bipush 6, 2) := by decide +kernel
theorem d_Di_directory_38 : decode b_Di_directory 38 = .ok (.if_icmp .lt 6, 3) := by decide +kernel
theorem d_Di_directory_44 : decode b_Di_directory 44 = .ok (.aload_n 0, 1) := by decide +kernel
theorem d_Di_directory_45 : decode b_Di_directory 45 = .ok (.aload 4, 2) := by decide +kernel
theorem d_Di_directory_47 : decode b_Di_directory 47 = .ok (.iconst 1, 1) := by decide +kernel
theorem d_Di_directory_48 : decode b_Di_directory 48 = .ok (.lload_n 2, 1) := by decide +kernel
theorem d_Di_directory_49 : decode b_Di_directory 49 = .ok (.invokevirtual 82, 3) := by decide +kernel
theorem d_Di_directory_52 : decode b_Di_directory 52 = .ok (.ireturn, 1) := by decide +kernel
theorem d_Di_directory_41 : decode b_Di_directory 41 = .ok (.bipush (-2), 2) := by decide +kernel
theorem d_Di_directory_43 : decode b_Di_directory 43 = .ok (.ireturn, 1) := by decide +kernel
theorem d_Di_file_0 : decode b_Di_file 0 = .ok (.aload_n 0, 1) := by decide +kernel
theorem d_Di_file_1 : decode b_Di_file 1 = .ok (.getfield 10, 3) := by decide +kernel
theorem d_Di_file_4 : decode b_Di_file 4 = .ok (.getfield 60, 3) := by decide +kernel
theorem d_Di_file_7 : decode b_Di_file 7 = .ok (.getfield 69, 3) := by decide +kernel
theorem d_Di_file_10 : decode b_Di_file 10 = .ok (.ifCond .eq 6, 3) := by decide +kernel
theorem d_Di_file_16 : decode b_Di_file 16 = .ok (.aload_n 0, 1) := by decide +kernel
theorem d_Di_file_17 : decode b_Di_file 17 = .ok (.getfield 26, 3) := by decide +kernel
theorem d_Di_file_20 : decode b_Di_file 20 = .ok (.iload_n 1, 1) := by decide +kernel
theorem d_Di_file_21 : decode b_Di_file 21 = .ok (.invokevirtual 72, 3) := by decide +kernel
theorem d_Di_file_24 : decode b_Di_file 24 = .ok (.astore 6, 2) := by decide +kernel
theorem d_Di_file_26 : decode b_Di_file 26 = .ok (.aload 6, 2) := by decide +kernel
theorem d_Di_file_28 : decode b_Di_file 28 = .ok (.ifnull 13, 3) := by decide +kernel
theorem d_Di_file_31 : decode b_Di_file 31 = .ok (.iload 4, 2) := by decide +kernel
theorem d_Di_file_33 : decode b_Di_file 33 = .ok (.iload 5, 2) := by decide +kernel
theorem d_Di_file_35 : decode b_Di_file 35 = .ok (.invokestatic 86, 3) := by decide +kernel
theorem d_Di_file_38 : decode b_Di_file 38 = .ok (.ifCond .ne 6, 3) := by decide +kernel
theorem d_Di_file_44 : decode b_Di_file 44 = .ok (.aload_n 0, 1) := by decide +kernel
theorem d_Di_file_45 : decode b_Di_file 45 = .ok (.aload 6, 2) := by decide +kernel
theorem d_Di_file_47 : decode b_Di_file 47 = .ok (.iconst 0, 1) := by decide +kernel
theorem d_Di_file_48 : decode b_Di_file 48 = .ok (.lload_n 2, 1) := by decide +kernel
theorem d_Di_file_49 : decode b_Di_file 49 = .ok (.invokevirtual 82, 3) := by decide +kernel
theorem d_Di_file_52 : decode b_Di_file 52 = .ok (.istore 7, 2) := by decide +kernel
theorem d_Di_file_54 : decode b_Di_file 54 = .ok (.aload_n 0, 1) := by decide +kernel
theorem d_Di_file_55 : decode b_Di_file 55 = .ok (.getfield 26, 3) := by decide +kernel
theorem d_Di_file_58 : decode b_Di_file 58 = .ok (.iload 7, 2) := by decide +kernel
theorem d_Di_file_60 : decode b_Di_file 60 = .ok (.invokevirtual 90, 3) := by decide +kernel
theorem d_Di_file_63 : decode b_Di_file 63 = .ok (.astore 8, 2) := by decide +kernel
theorem d_Di_file_65 : decode b_Di_file 65 = .ok (.aload 8, 2) := by decide +kernel
theorem d_Di_file_67 : decode b_Di_file 67 = .ok (.ifnull 12, 3) := by decide +kernel
theorem d_Di_file_79 : decode b_Di_file 79 = .ok (.iload 7, 2) := by decide +kernel
theorem d_Di_file_81 : decode b_Di_file 81 = .ok (.ireturn, 1) := by decide +kernel
theorem d_Di_file_70 : decode b_Di_file 70 = .ok (.aload 8, 2) := by decide +kernel
theorem d_Di_file_72 : decode b_Di_file 72 = .ok (.iload 4, 2) := by decide +kernel
theorem d_Di_file_74 : decode b_Di_file 74 = .ok (.iload 5, 2) := by decide +kernel
theorem d_Di_file_76 : decode b_Di_file 76 = .ok (.invokevirtual 93, 3) := by decide +kernel
theorem d_Di_file_41 : decode b_Di_file 41 = .ok (.bipush (-2), 2) := by decide +kernel
theorem d_Di_file_43 : decode b_Di_file 43 = .ok (.ireturn, 1) := by decide +kernel
set_option maxHeartbeats 4000000 in
set_option maxRecDepth 100000 in
theorem c_Di_added1 (l : Launch) (D : va_G) (t : Nat → ClassId) (G : Heap) (ak av : Nat → Nat) (h : hM) (x wr rd ns op sr md sl od rt nd : Nat) (fs g : Nat → Option Nat) (wo : Int64) (f_x : h x = some (.inr (8, [.ref wr, .ref rd, .ref ns, .ref md, .null, .int 0, .int 0, .ref op, .ref sr]))) (f_ns : h ns = some (.inr (2, [.ref sl, .ref od, .int 1, .int 1]))) (f_sl : h sl = some (.inl ((t 4), 30, .inr (.inr (.inr (.inr fs)))))) (f_od : h od = some (.inl ((t 4), 30, .inr (.inr (.inr (.inr g)))))) (f_rt : h rt = some (.inr (1, [.int 0, .null, .int 1, .long 0, .int 0, .int 0, .int 0, .int 0, .int 0, .int 0, .int 1]))) (f_nd : h nd = some (.inr (1, [.int 0, .null, .int 1, .long 0, .int 0, .int 0, .int 0, .int 0, .int 0, .int 0, .int 1]))) (hf0 : fs 0 = some rt) (hf1 : fs 1 = some nd) (ne_rt_nd : rt ≠ nd) : Met l y_Di_added (.code y_Di_added b_Di_added 8 (some .int) :: lw_g) { frames := 2, cells := 0, slots := 0, locals := 47 } (hP (kE D t G ak av) D vwCl G h [.ref x, .ref rt, .int 1, .long wo]) (hQi D vwCl G (fun r h' => (r = -2 ∧ tlV wo = 0 ∧ h = h') ∨ (r = 1 ∧ tlV wo ≠ 0 ∧ kp [ns, nd] h h' ∧ h' ns = some (.inr (2, [.ref sl, .ref od, .int (1 + 1), .int (1 + 1)])) ∧ ∃ le : Int32, h' nd = some (.inr (1, [.int 1, .ref rt, .int 1, .long (tlV wo), .int le, .int 0, .int 0, .int 0, .int 0, .int 0, .int 1]))))) 0 0 (fun q => G.size ≤ q) := by
  refine Met.ofW (cc := b_Di_added) (maxL := 8) (ret := (some .int)) (by decide) rfl ?_
  intro p e s m args below meth c s₁ Bd hml hv
  obtain ⟨ha, hE, hH⟩ := hv
  have hx := Bd.exec
  have hb := Bd.bytes
  have hr := Bd.returns
  have hts : ∀ w ∈ lw_g, w.before args s = true := fun w hw => atoms_spec (ws := (.code y_Di_added b_Di_added 8 (some .int) :: lw_g)) Bd.pre w (List.mem_cons_of_mem _ hw)
  have hown : s.vm.findClass R_Di = some m.cls := findClass_of_methodNamed Bd.named
  have hlocks := Bd.notSynchronized
  have hK := hE.1
  have hH0 := hH
  have hLo : hLc G.size [] := hLc_nil
  have hz : s.heap.size ≤ s.heap.size := Nat.le_refl _
  have hkp : kp [ns, nd] h h := kp_rf
  have hl := lv_entry [.ref x, .ref rt, .int 1, .long wo] (n := 8) (Nat.le_of_ble_eq_true rfl)
  rw [show entryFrame m args 8 = F0 m 0 ((lg_sl [.ref x, .ref rt, .int 1, .long wo] ++ List.replicate (8 - (lg_sl [.ref x, .ref rt, .int 1, .long wo]).length) Slot.unset).toArray) [] from (by rw [ha]; exact lg_entry_eq m [.ref x, .ref rt, .int 1, .long wo] 8)]
  generalize (lg_sl [.ref x, .ref rt, .int 1, .long wo] ++ List.replicate (8 - (lg_sl [.ref x, .ref rt, .int 1, .long wo]).length) Slot.unset).toArray = ls at hl ⊢
  have hl : lv_has ls 8 [(0, .ref x), (1, .ref rt), (2, .int 1), (3, .long wo)] := hl
  refine lv_lload_n hx hb d_Di_added_0 rfl (lv_at hl 3 rfl) ?_
  refine hm_calll (va_runS (As := [.long wo]) (rest := []) ⟨hx, hb, hml, hown, hts⟩ (c_Di_nameIn l D t G ak av h wo) ⟨cw9B 1 hts mw_322 mw_323 mw_121 rfl rfl (by decide +kernel) ⟨Nat.le_of_ble_eq_true rfl, Nat.le_of_ble_eq_true rfl⟩, hts _ mw_324⟩ (hP_S kE_ok hE hH) rfl rfl hl.1 rfl (lv_room (Nat.le_of_ble_eq_true rfl)) d_Di_added_1 ⟨Nat.le_of_ble_eq_true rfl, Nat.le_of_ble_eq_true rfl⟩) hLo (fun r1 h2 H3 locs hp5 hH z4 hLo => ?_)
  have hz : s.heap.size ≤ H3.size := Nat.le_trans hz z4
  obtain ⟨rfl, rfl⟩ := hp5
  refine lv_lstore (lv' := [(5, .long (tlV wo)), (0, .ref x), (1, .ref rt), (2, .int 1), (3, .long wo)]) hx hb d_Di_added_4 hl (by decide) rfl (fun ls hl => ?_)
  refine lv_lload hx hb d_Di_added_6 (lv_at hl 0 rfl) ?_
  refine lv_lconst (v := 0) hx hb d_Di_added_8 (by decide) ?_
  refine W.lcmp hx hb d_Di_added_9 ?_
  refine lv_if_ne (tgt := 16) hx hb d_Di_added_10 (by decide) (fun hc6 => ?_) (fun hc6 => ?_)
  · skip
    refine lv_aload_n hx hb d_Di_added_16 rfl (lv_at hl 1 rfl) ?_
    refine hm_get (ci := 8) (v := .ref ns) (C := R_Di) (T := F_Di) (N := 9) hx hb hts ig_Di hown hK hH f_x rfl 2 (by decide) (hts _ mw_258) (fun _ h9 => h9) rfl d_Di_added_17 ?_
    refine lv_aload_n hx hb d_Di_added_20 rfl (lv_at hl 2 rfl) ?_
    refine lv_lload hx hb d_Di_added_21 (lv_at hl 0 rfl) ?_
    refine lv_null hx hb d_Di_added_23 ?_
    refine hm_calli (va_runV (As := [.ref rt, .long (tlV wo), .null]) (b := ns) (rest := []) ⟨hx, hb, hml, hown, hts⟩ (c_Nodes_other l D t G ak av h ns sl od rt fs 0 1 (tlV wo) f_ns f_sl f_rt hf0) ⟨cw9B 3 hts mw_325 mw_326 mw_187 rfl rfl (by decide +kernel) ⟨Nat.le_of_ble_eq_true rfl, Nat.le_of_ble_eq_true rfl⟩, hts _ mw_327, hts _ mw_328⟩ (hP_V (q := (R_Ns, F_Ns, 4)) kE_ok hE hK hH f_ns rfl) rfl rfl hl.1 rfl (lv_room (Nat.le_of_ble_eq_true rfl)) d_Di_added_24 ⟨Nat.le_of_ble_eq_true rfl, Nat.le_of_ble_eq_true rfl⟩) hLo (fun r7 h8 H9 locs hp11 hH z10 hLo => ?_)
    have hz : s.heap.size ≤ H9.size := Nat.le_trans hz z10
    obtain ⟨rfl, rfl⟩ := hp11
    refine lv_if_eq (tgt := 33) hx hb d_Di_added_27 (by decide) (fun hc12 => ?_) (fun hc12 => absurd rfl hc12)
    refine lv_aload_n hx hb d_Di_added_33 rfl (lv_at hl 1 rfl) ?_
    refine hm_get (ci := 8) (v := .ref ns) (C := R_Di) (T := F_Di) (N := 9) hx hb hts ig_Di hown hK hH f_x rfl 2 (by decide) (hts _ mw_258) (fun _ h9 => h9) rfl d_Di_added_34 ?_
    refine hm_callr (va_runV (As := []) (b := ns) (rest := []) ⟨hx, hb, hml, hown, hts⟩ (c_Nodes_append l D t G ak av h ns sl od nd fs f_ns f_sl f_nd hf1) ⟨cw9B 0 hts mw_329 mw_330 mw_187 rfl rfl (by decide +kernel) ⟨Nat.le_of_ble_eq_true rfl, Nat.le_of_ble_eq_true rfl⟩, hts _ mw_331, hts _ mw_332⟩ (hP_V (q := (R_Ns, F_Ns, 4)) kE_ok hE hK hH f_ns rfl) rfl rfl hl.1 rfl (lv_room (Nat.le_of_ble_eq_true rfl)) d_Di_added_37 ⟨Nat.le_of_ble_eq_true rfl, Nat.le_of_ble_eq_true rfl⟩) hLo (fun r13 h14 H15 locs hp17 hH z16 hLo => ?_)
    have hz : s.heap.size ≤ H15.size := Nat.le_trans hz z16
    obtain ⟨rfl, hk9, hns9, hnd9⟩ := hp17
    have f_x : h14 x = some (.inr (8, [.ref wr, .ref rd, .ref ns, .ref md, .null, .int 0, .int 0, .ref op, .ref sr])) := kp_at hk9 f_x (nmc (h_neC f_x f_ns (by decide)) (nmc (h_neC f_x f_nd (by decide)) nm0))
    have f_sl : h14 sl = some (.inl ((t 4), 30, .inr (.inr (.inr (.inr fs))))) := kp_at hk9 f_sl (nmc (h_neA f_sl f_ns) (nmc (h_neA f_sl f_nd) nm0))
    have f_od : h14 od = some (.inl ((t 4), 30, .inr (.inr (.inr (.inr g))))) := kp_at hk9 f_od (nmc (h_neA f_od f_ns) (nmc (h_neA f_od f_nd) nm0))
    have f_rt : h14 rt = some (.inr (1, [.int 0, .null, .int 1, .long 0, .int 0, .int 0, .int 0, .int 0, .int 0, .int 0, .int 1])) := kp_at hk9 f_rt (nmc (h_neC f_rt f_ns (by decide)) (nmc ne_rt_nd nm0))
    have hkp : kp [ns, nd] h h14 := kp_tr2 hkp hk9 (List.forall_mem_cons.mpr ⟨Or.inl (by simp), List.forall_mem_cons.mpr ⟨Or.inl (by simp), List.forall_mem_nil _⟩⟩)
    have f_ns : h14 ns = some (.inr (2, [.ref sl, .ref od, .int (1 + 1), .int (1 + 1)])) := hns9
    have f_nd : h14 nd = some (.inr (1, [.int 1, .null, .int 1, .long 0, .int 0, .int 0, .int 0, .int 0, .int 0, .int 0, .int 1])) := hnd9
    refine W.eq (g2 := F0 m 40 ls [.ref nd]) rfl ?_
    refine lv_astore (lv' := [(7, .ref nd), (5, .long (tlV wo)), (0, .ref x), (1, .ref rt), (2, .int 1), (3, .long wo)]) hx hb d_Di_added_40 hl (by decide) rfl (fun ls hl => ?_)
    refine lv_aload hx hb d_Di_added_42 (lv_at hl 0 rfl) ?_
    refine lv_ifnonnull (tgt := 50) hx hb d_Di_added_44 (by decide) ?_
    refine lv_aload hx hb d_Di_added_50 (lv_at hl 0 rfl) ?_
    refine lv_aload_n hx hb d_Di_added_52 rfl (lv_at hl 3 rfl) ?_
    refine lv_iload_n hx hb d_Di_added_53 rfl (lv_at hl 4 rfl) ?_
    refine lv_lload hx hb d_Di_added_54 (lv_at hl 1 rfl) ?_
    refine hm_callv (va_runV (As := [.ref rt, .int 1, .long (tlV wo)]) (b := nd) (rest := []) ⟨hx, hb, hml, hown, hts⟩ (c_Node_become1 l D t G ak av h14 nd rt (tlV wo) f_nd) ⟨cw9B 3 hts mw_333 mw_334 mw_40 rfl rfl (by decide +kernel) ⟨Nat.le_of_ble_eq_true rfl, Nat.le_of_ble_eq_true rfl⟩, hts _ mw_335, hts _ mw_336⟩ (hP_V (q := (R_No, F_No, 11)) kE_ok hE hK hH f_nd rfl) rfl rfl hl.1 rfl (lv_room (Nat.le_of_ble_eq_true rfl)) d_Di_added_56 ⟨Nat.le_of_ble_eq_true rfl, Nat.le_of_ble_eq_true rfl⟩) hLo (fun h18 H19 locs hp21 hH z20 hLo => ?_)
    have hz : s.heap.size ≤ H19.size := Nat.le_trans hz z20
    obtain ⟨hk9, le, hn9⟩ := hp21
    have f_x : h18 x = some (.inr (8, [.ref wr, .ref rd, .ref ns, .ref md, .null, .int 0, .int 0, .ref op, .ref sr])) := kp_at hk9 f_x (nmc (h_neC f_x f_nd (by decide)) nm0)
    have f_ns : h18 ns = some (.inr (2, [.ref sl, .ref od, .int (1 + 1), .int (1 + 1)])) := kp_at hk9 f_ns (nmc (h_neC f_ns f_nd (by decide)) nm0)
    have f_sl : h18 sl = some (.inl ((t 4), 30, .inr (.inr (.inr (.inr fs))))) := kp_at hk9 f_sl (nmc (h_neA f_sl f_nd) nm0)
    have f_od : h18 od = some (.inl ((t 4), 30, .inr (.inr (.inr (.inr g))))) := kp_at hk9 f_od (nmc (h_neA f_od f_nd) nm0)
    have f_rt : h18 rt = some (.inr (1, [.int 0, .null, .int 1, .long 0, .int 0, .int 0, .int 0, .int 0, .int 0, .int 0, .int 1])) := kp_at hk9 f_rt (nmc ne_rt_nd nm0)
    have hkp : kp [ns, nd] h h18 := kp_tr2 hkp hk9 (List.forall_mem_cons.mpr ⟨Or.inl (by simp), List.forall_mem_nil _⟩)
    have f_nd : h18 nd = some (.inr (1, [.int 1, .ref rt, .int 1, .long (tlV wo), .int le, .int 0, .int 0, .int 0, .int 0, .int 0, .int 1])) := hn9
    refine lv_aload hx hb d_Di_added_59 (lv_at hl 0 rfl) ?_
    refine hm_get (ci := 1) (v := .int 1) (C := R_No) (T := F_No) (N := 11) hx hb hts ig_No hown hK hH f_nd rfl 0 (by decide) (hts _ mw_337) (fun _ h9 => h9) rfl d_Di_added_61 ?_
    exact W.iret (v := 1) hx hb hr (fun t9 ht hW => ⟨1, h18, rfl, Or.inr ⟨rfl, mt (lg_cmp_eq _ _).mpr hc6, hkp, f_ns, le, f_nd⟩, by rw [ht]; exact hH, by rw [ht]; exact hz⟩) hLo d_Di_added_64
  · skip
    refine lv_bipush (v := -2) hx hb d_Di_added_13 (by decide) ?_
    exact W.iret (v := (-2)) hx hb hr (fun t9 ht hW => ⟨(-2), h, rfl, Or.inl ⟨rfl, (lg_cmp_eq _ _).mp hc6, rfl⟩, by rw [ht]; exact hH, by rw [ht]; exact hz⟩) hLo d_Di_added_15

set_option maxHeartbeats 4000000 in
set_option maxRecDepth 100000 in
theorem c_Di_added0 (l : Launch) (D : va_G) (t : Nat → ClassId) (G : Heap) (ak av : Nat → Nat) (h : hM) (x wr rd ns op sr md sl od rt nd : Nat) (fs g : Nat → Option Nat) (wo : Int64) (f_x : h x = some (.inr (8, [.ref wr, .ref rd, .ref ns, .ref md, .null, .int 0, .int 0, .ref op, .ref sr]))) (f_ns : h ns = some (.inr (2, [.ref sl, .ref od, .int 1, .int 1]))) (f_sl : h sl = some (.inl ((t 4), 30, .inr (.inr (.inr (.inr fs)))))) (f_od : h od = some (.inl ((t 4), 30, .inr (.inr (.inr (.inr g)))))) (f_rt : h rt = some (.inr (1, [.int 0, .null, .int 1, .long 0, .int 0, .int 0, .int 0, .int 0, .int 0, .int 0, .int 1]))) (f_nd : h nd = some (.inr (1, [.int 0, .null, .int 1, .long 0, .int 0, .int 0, .int 0, .int 0, .int 0, .int 0, .int 1]))) (hf0 : fs 0 = some rt) (hf1 : fs 1 = some nd) (ne_rt_nd : rt ≠ nd) : Met l y_Di_added (.code y_Di_added b_Di_added 8 (some .int) :: lw_g) { frames := 2, cells := 0, slots := 0, locals := 47 } (hP (kE D t G ak av) D vwCl G h [.ref x, .ref rt, .int 0, .long wo]) (hQi D vwCl G (fun r h' => (r = -2 ∧ tlV wo = 0 ∧ h = h') ∨ (r = 1 ∧ tlV wo ≠ 0 ∧ kp [ns, nd] h h' ∧ h' ns = some (.inr (2, [.ref sl, .ref od, .int (1 + 1), .int (1 + 1)])) ∧ ∃ le : Int32, h' nd = some (.inr (1, [.int 1, .ref rt, .int 0, .long (tlV wo), .int le, .int 0, .int 0, .int 0, .int 0, .int 0, .int 1]))))) 0 0 (fun q => G.size ≤ q) := by
  refine Met.ofW (cc := b_Di_added) (maxL := 8) (ret := (some .int)) (by decide) rfl ?_
  intro p e s m args below meth c s₁ Bd hml hv
  obtain ⟨ha, hE, hH⟩ := hv
  have hx := Bd.exec
  have hb := Bd.bytes
  have hr := Bd.returns
  have hts : ∀ w ∈ lw_g, w.before args s = true := fun w hw => atoms_spec (ws := (.code y_Di_added b_Di_added 8 (some .int) :: lw_g)) Bd.pre w (List.mem_cons_of_mem _ hw)
  have hown : s.vm.findClass R_Di = some m.cls := findClass_of_methodNamed Bd.named
  have hlocks := Bd.notSynchronized
  have hK := hE.1
  have hH0 := hH
  have hLo : hLc G.size [] := hLc_nil
  have hz : s.heap.size ≤ s.heap.size := Nat.le_refl _
  have hkp : kp [ns, nd] h h := kp_rf
  have hl := lv_entry [.ref x, .ref rt, .int 0, .long wo] (n := 8) (Nat.le_of_ble_eq_true rfl)
  rw [show entryFrame m args 8 = F0 m 0 ((lg_sl [.ref x, .ref rt, .int 0, .long wo] ++ List.replicate (8 - (lg_sl [.ref x, .ref rt, .int 0, .long wo]).length) Slot.unset).toArray) [] from (by rw [ha]; exact lg_entry_eq m [.ref x, .ref rt, .int 0, .long wo] 8)]
  generalize (lg_sl [.ref x, .ref rt, .int 0, .long wo] ++ List.replicate (8 - (lg_sl [.ref x, .ref rt, .int 0, .long wo]).length) Slot.unset).toArray = ls at hl ⊢
  have hl : lv_has ls 8 [(0, .ref x), (1, .ref rt), (2, .int 0), (3, .long wo)] := hl
  refine lv_lload_n hx hb d_Di_added_0 rfl (lv_at hl 3 rfl) ?_
  refine hm_calll (va_runS (As := [.long wo]) (rest := []) ⟨hx, hb, hml, hown, hts⟩ (c_Di_nameIn l D t G ak av h wo) ⟨cw9B 1 hts mw_322 mw_323 mw_121 rfl rfl (by decide +kernel) ⟨Nat.le_of_ble_eq_true rfl, Nat.le_of_ble_eq_true rfl⟩, hts _ mw_324⟩ (hP_S kE_ok hE hH) rfl rfl hl.1 rfl (lv_room (Nat.le_of_ble_eq_true rfl)) d_Di_added_1 ⟨Nat.le_of_ble_eq_true rfl, Nat.le_of_ble_eq_true rfl⟩) hLo (fun r1 h2 H3 locs hp5 hH z4 hLo => ?_)
  have hz : s.heap.size ≤ H3.size := Nat.le_trans hz z4
  obtain ⟨rfl, rfl⟩ := hp5
  refine lv_lstore (lv' := [(5, .long (tlV wo)), (0, .ref x), (1, .ref rt), (2, .int 0), (3, .long wo)]) hx hb d_Di_added_4 hl (by decide) rfl (fun ls hl => ?_)
  refine lv_lload hx hb d_Di_added_6 (lv_at hl 0 rfl) ?_
  refine lv_lconst (v := 0) hx hb d_Di_added_8 (by decide) ?_
  refine W.lcmp hx hb d_Di_added_9 ?_
  refine lv_if_ne (tgt := 16) hx hb d_Di_added_10 (by decide) (fun hc6 => ?_) (fun hc6 => ?_)
  · skip
    refine lv_aload_n hx hb d_Di_added_16 rfl (lv_at hl 1 rfl) ?_
    refine hm_get (ci := 8) (v := .ref ns) (C := R_Di) (T := F_Di) (N := 9) hx hb hts ig_Di hown hK hH f_x rfl 2 (by decide) (hts _ mw_258) (fun _ h9 => h9) rfl d_Di_added_17 ?_
    refine lv_aload_n hx hb d_Di_added_20 rfl (lv_at hl 2 rfl) ?_
    refine lv_lload hx hb d_Di_added_21 (lv_at hl 0 rfl) ?_
    refine lv_null hx hb d_Di_added_23 ?_
    refine hm_calli (va_runV (As := [.ref rt, .long (tlV wo), .null]) (b := ns) (rest := []) ⟨hx, hb, hml, hown, hts⟩ (c_Nodes_other l D t G ak av h ns sl od rt fs 0 1 (tlV wo) f_ns f_sl f_rt hf0) ⟨cw9B 3 hts mw_325 mw_326 mw_187 rfl rfl (by decide +kernel) ⟨Nat.le_of_ble_eq_true rfl, Nat.le_of_ble_eq_true rfl⟩, hts _ mw_327, hts _ mw_328⟩ (hP_V (q := (R_Ns, F_Ns, 4)) kE_ok hE hK hH f_ns rfl) rfl rfl hl.1 rfl (lv_room (Nat.le_of_ble_eq_true rfl)) d_Di_added_24 ⟨Nat.le_of_ble_eq_true rfl, Nat.le_of_ble_eq_true rfl⟩) hLo (fun r7 h8 H9 locs hp11 hH z10 hLo => ?_)
    have hz : s.heap.size ≤ H9.size := Nat.le_trans hz z10
    obtain ⟨rfl, rfl⟩ := hp11
    refine lv_if_eq (tgt := 33) hx hb d_Di_added_27 (by decide) (fun hc12 => ?_) (fun hc12 => absurd rfl hc12)
    refine lv_aload_n hx hb d_Di_added_33 rfl (lv_at hl 1 rfl) ?_
    refine hm_get (ci := 8) (v := .ref ns) (C := R_Di) (T := F_Di) (N := 9) hx hb hts ig_Di hown hK hH f_x rfl 2 (by decide) (hts _ mw_258) (fun _ h9 => h9) rfl d_Di_added_34 ?_
    refine hm_callr (va_runV (As := []) (b := ns) (rest := []) ⟨hx, hb, hml, hown, hts⟩ (c_Nodes_append l D t G ak av h ns sl od nd fs f_ns f_sl f_nd hf1) ⟨cw9B 0 hts mw_329 mw_330 mw_187 rfl rfl (by decide +kernel) ⟨Nat.le_of_ble_eq_true rfl, Nat.le_of_ble_eq_true rfl⟩, hts _ mw_331, hts _ mw_332⟩ (hP_V (q := (R_Ns, F_Ns, 4)) kE_ok hE hK hH f_ns rfl) rfl rfl hl.1 rfl (lv_room (Nat.le_of_ble_eq_true rfl)) d_Di_added_37 ⟨Nat.le_of_ble_eq_true rfl, Nat.le_of_ble_eq_true rfl⟩) hLo (fun r13 h14 H15 locs hp17 hH z16 hLo => ?_)
    have hz : s.heap.size ≤ H15.size := Nat.le_trans hz z16
    obtain ⟨rfl, hk9, hns9, hnd9⟩ := hp17
    have f_x : h14 x = some (.inr (8, [.ref wr, .ref rd, .ref ns, .ref md, .null, .int 0, .int 0, .ref op, .ref sr])) := kp_at hk9 f_x (nmc (h_neC f_x f_ns (by decide)) (nmc (h_neC f_x f_nd (by decide)) nm0))
    have f_sl : h14 sl = some (.inl ((t 4), 30, .inr (.inr (.inr (.inr fs))))) := kp_at hk9 f_sl (nmc (h_neA f_sl f_ns) (nmc (h_neA f_sl f_nd) nm0))
    have f_od : h14 od = some (.inl ((t 4), 30, .inr (.inr (.inr (.inr g))))) := kp_at hk9 f_od (nmc (h_neA f_od f_ns) (nmc (h_neA f_od f_nd) nm0))
    have f_rt : h14 rt = some (.inr (1, [.int 0, .null, .int 1, .long 0, .int 0, .int 0, .int 0, .int 0, .int 0, .int 0, .int 1])) := kp_at hk9 f_rt (nmc (h_neC f_rt f_ns (by decide)) (nmc ne_rt_nd nm0))
    have hkp : kp [ns, nd] h h14 := kp_tr2 hkp hk9 (List.forall_mem_cons.mpr ⟨Or.inl (by simp), List.forall_mem_cons.mpr ⟨Or.inl (by simp), List.forall_mem_nil _⟩⟩)
    have f_ns : h14 ns = some (.inr (2, [.ref sl, .ref od, .int (1 + 1), .int (1 + 1)])) := hns9
    have f_nd : h14 nd = some (.inr (1, [.int 1, .null, .int 1, .long 0, .int 0, .int 0, .int 0, .int 0, .int 0, .int 0, .int 1])) := hnd9
    refine W.eq (g2 := F0 m 40 ls [.ref nd]) rfl ?_
    refine lv_astore (lv' := [(7, .ref nd), (5, .long (tlV wo)), (0, .ref x), (1, .ref rt), (2, .int 0), (3, .long wo)]) hx hb d_Di_added_40 hl (by decide) rfl (fun ls hl => ?_)
    refine lv_aload hx hb d_Di_added_42 (lv_at hl 0 rfl) ?_
    refine lv_ifnonnull (tgt := 50) hx hb d_Di_added_44 (by decide) ?_
    refine lv_aload hx hb d_Di_added_50 (lv_at hl 0 rfl) ?_
    refine lv_aload_n hx hb d_Di_added_52 rfl (lv_at hl 3 rfl) ?_
    refine lv_iload_n hx hb d_Di_added_53 rfl (lv_at hl 4 rfl) ?_
    refine lv_lload hx hb d_Di_added_54 (lv_at hl 1 rfl) ?_
    refine hm_callv (va_runV (As := [.ref rt, .int 0, .long (tlV wo)]) (b := nd) (rest := []) ⟨hx, hb, hml, hown, hts⟩ (c_Node_become0 l D t G ak av h14 nd rt (tlV wo) f_nd) ⟨cw9B 3 hts mw_333 mw_334 mw_40 rfl rfl (by decide +kernel) ⟨Nat.le_of_ble_eq_true rfl, Nat.le_of_ble_eq_true rfl⟩, hts _ mw_335, hts _ mw_336⟩ (hP_V (q := (R_No, F_No, 11)) kE_ok hE hK hH f_nd rfl) rfl rfl hl.1 rfl (lv_room (Nat.le_of_ble_eq_true rfl)) d_Di_added_56 ⟨Nat.le_of_ble_eq_true rfl, Nat.le_of_ble_eq_true rfl⟩) hLo (fun h18 H19 locs hp21 hH z20 hLo => ?_)
    have hz : s.heap.size ≤ H19.size := Nat.le_trans hz z20
    obtain ⟨hk9, le, hn9⟩ := hp21
    have f_x : h18 x = some (.inr (8, [.ref wr, .ref rd, .ref ns, .ref md, .null, .int 0, .int 0, .ref op, .ref sr])) := kp_at hk9 f_x (nmc (h_neC f_x f_nd (by decide)) nm0)
    have f_ns : h18 ns = some (.inr (2, [.ref sl, .ref od, .int (1 + 1), .int (1 + 1)])) := kp_at hk9 f_ns (nmc (h_neC f_ns f_nd (by decide)) nm0)
    have f_sl : h18 sl = some (.inl ((t 4), 30, .inr (.inr (.inr (.inr fs))))) := kp_at hk9 f_sl (nmc (h_neA f_sl f_nd) nm0)
    have f_od : h18 od = some (.inl ((t 4), 30, .inr (.inr (.inr (.inr g))))) := kp_at hk9 f_od (nmc (h_neA f_od f_nd) nm0)
    have f_rt : h18 rt = some (.inr (1, [.int 0, .null, .int 1, .long 0, .int 0, .int 0, .int 0, .int 0, .int 0, .int 0, .int 1])) := kp_at hk9 f_rt (nmc ne_rt_nd nm0)
    have hkp : kp [ns, nd] h h18 := kp_tr2 hkp hk9 (List.forall_mem_cons.mpr ⟨Or.inl (by simp), List.forall_mem_nil _⟩)
    have f_nd : h18 nd = some (.inr (1, [.int 1, .ref rt, .int 0, .long (tlV wo), .int le, .int 0, .int 0, .int 0, .int 0, .int 0, .int 1])) := hn9
    refine lv_aload hx hb d_Di_added_59 (lv_at hl 0 rfl) ?_
    refine hm_get (ci := 1) (v := .int 1) (C := R_No) (T := F_No) (N := 11) hx hb hts ig_No hown hK hH f_nd rfl 0 (by decide) (hts _ mw_337) (fun _ h9 => h9) rfl d_Di_added_61 ?_
    exact W.iret (v := 1) hx hb hr (fun t9 ht hW => ⟨1, h18, rfl, Or.inr ⟨rfl, mt (lg_cmp_eq _ _).mpr hc6, hkp, f_ns, le, f_nd⟩, by rw [ht]; exact hH, by rw [ht]; exact hz⟩) hLo d_Di_added_64
  · skip
    refine lv_bipush (v := -2) hx hb d_Di_added_13 (by decide) ?_
    exact W.iret (v := (-2)) hx hb hr (fun t9 ht hW => ⟨(-2), h, rfl, Or.inl ⟨rfl, (lg_cmp_eq _ _).mp hc6, rfl⟩, by rw [ht]; exact hH, by rw [ht]; exact hz⟩) hLo d_Di_added_15

set_option maxHeartbeats 4000000 in
set_option maxRecDepth 100000 in
theorem c_x_directory (l : Launch) (D : va_G) (t : Nat → ClassId) (G : Heap) (ak av : Nat → Nat) (h : hM) (x n : Nat) (nu : Int32) (wo : Int64) (hX : FrX t h x n) : Met l y_Di_directory (.code y_Di_directory b_Di_directory 5 (some .int) :: lw_g) { frames := 3, cells := 0, slots := 0, locals := 74 } (hP (kE D t G ak av) D vwCl G h [.ref x, .int nu, .long wo]) (hQi D vwCl G (fun r h' => (r = -2 ∧ ¬ (nu = 0 ∧ tlV wo ≠ 0)) ∨ (r = 1 ∧ nu = 0 ∧ tlV wo ≠ 0))) 0 0 (fun q => G.size ≤ q) := by
  refine Met.ofW (cc := b_Di_directory) (maxL := 5) (ret := (some .int)) (by decide) rfl ?_
  intro p e s m args below meth c s₁ Bd hml hv
  obtain ⟨ha, hE, hH⟩ := hv
  have hx := Bd.exec
  have hb := Bd.bytes
  have hr := Bd.returns
  have hts : ∀ w ∈ lw_g, w.before args s = true := fun w hw => atoms_spec (ws := (.code y_Di_directory b_Di_directory 5 (some .int) :: lw_g)) Bd.pre w (List.mem_cons_of_mem _ hw)
  have hown : s.vm.findClass R_Di = some m.cls := findClass_of_methodNamed Bd.named
  have hlocks := Bd.notSynchronized
  have hK := hE.1
  have hH0 := hH
  have hLo : hLc G.size [] := hLc_nil
  have hz : s.heap.size ≤ s.heap.size := Nat.le_refl _
  have hkp : kp [] h h := kp_rf
  have hl := lv_entry [.ref x, .int nu, .long wo] (n := 5) (Nat.le_of_ble_eq_true rfl)
  rw [show entryFrame m args 5 = F0 m 0 ((lg_sl [.ref x, .int nu, .long wo] ++ List.replicate (5 - (lg_sl [.ref x, .int nu, .long wo]).length) Slot.unset).toArray) [] from (by rw [ha]; exact lg_entry_eq m [.ref x, .int nu, .long wo] 5)]
  generalize (lg_sl [.ref x, .int nu, .long wo] ++ List.replicate (5 - (lg_sl [.ref x, .int nu, .long wo]).length) Slot.unset).toArray = ls at hl ⊢
  have hl : lv_has ls 5 [(0, .ref x), (1, .int nu), (2, .long wo)] := hl
  obtain ⟨wr, rd, ns, op, sr, md, su, pg, pb, sl, od, sa, fs, g, fa, f_x, f_wr, f_su, f_pg, f_pb, f_ns, f_sl, f_od, hgf, hnd, f_md, f_sa, hrow, ne_sl_od, hn40, hn⟩ := hX
  obtain ⟨rt, hf0, f_rt⟩ := hnd.2 0 (by decide) (by decide)
  obtain ⟨nd, hf1, f_nd⟩ := hnd.2 1 (by decide) (by decide)
  have ne_rt_nd : rt ≠ nd := fun q => absurd (hnd.1 0 1 (by decide) (by decide) (by rw [hf0, hf1, q])) (by decide)
  refine lv_aload_n hx hb d_Di_directory_0 rfl (lv_at hl 0 rfl) ?_
  refine hm_get (ci := 8) (v := .ref wr) (C := R_Di) (T := F_Di) (N := 9) hx hb hts ig_Di hown hK hH f_x rfl 0 (by decide) (hts _ mw_246) (fun _ h9 => h9) rfl d_Di_directory_1 ?_
  refine hm_get (ci := 7) (v := .ref su) (C := R_Wr) (T := F_Wr) (N := 2) hx hb hts ig_Wr hown hK hH f_wr rfl 0 (by decide) (hts _ mw_290) (fun _ h9 => h9) rfl d_Di_directory_4 ?_
  refine hm_get (ci := 4) (v := .int 0) (C := R_Po) (T := F_Po) (N := 3) hx hb hts ig_Po hown hK hH f_su rfl 1 (by decide) (hts _ mw_314) (fun _ h9 => h9) rfl d_Di_directory_7 ?_
  refine lv_if_eq (tgt := 16) hx hb d_Di_directory_10 (by decide) (fun hc1 => ?_) (fun hc1 => absurd rfl hc1)
  refine lv_aload_n hx hb d_Di_directory_16 rfl (lv_at hl 0 rfl) ?_
  refine hm_get (ci := 8) (v := .ref ns) (C := R_Di) (T := F_Di) (N := 9) hx hb hts ig_Di hown hK hH f_x rfl 2 (by decide) (hts _ mw_258) (fun _ h9 => h9) rfl d_Di_directory_17 ?_
  refine lv_iload_n hx hb d_Di_directory_20 rfl (lv_at hl 1 rfl) ?_
  by_cases hin : nu = 0
  · skip
    refine hm_callr (va_runV (As := [.int nu]) (b := ns) (rest := []) ⟨hx, hb, hml, hown, hts⟩ (c_Nodes_dirOf l D t G ak av h ns sl od rt fs 0 1 nu f_ns f_sl f_rt hf0) ⟨cw9B 1 hts mw_318 mw_319 mw_187 rfl rfl (by decide +kernel) ⟨Nat.le_of_ble_eq_true rfl, Nat.le_of_ble_eq_true rfl⟩, hts _ mw_320, hts _ mw_321⟩ (hP_V (q := (R_Ns, F_Ns, 4)) kE_ok hE hK hH f_ns rfl) rfl rfl hl.1 rfl (lv_room (Nat.le_of_ble_eq_true rfl)) d_Di_directory_21 ⟨Nat.le_of_ble_eq_true rfl, Nat.le_of_ble_eq_true rfl⟩) hLo (fun r2 h3 H4 locs hp6 hH z5 hLo => ?_)
    have hz : s.heap.size ≤ H4.size := Nat.le_trans hz z5
    obtain ⟨hr9, rfl⟩ := hp6
    rw [if_pos hin] at hr9
    subst hr9
    refine W.eq (g2 := F0 m 24 ls [.ref rt]) rfl ?_
    refine lv_astore (lv' := [(4, .ref rt), (0, .ref x), (1, .int nu), (2, .long wo)]) hx hb d_Di_directory_24 hl (by decide) rfl (fun ls hl => ?_)
    refine lv_aload hx hb d_Di_directory_26 (lv_at hl 0 rfl) ?_
    refine lv_ifnull hx hb d_Di_directory_28 ?_
    refine lv_aload hx hb d_Di_directory_31 (lv_at hl 0 rfl) ?_
    refine hm_calli (va_runV (As := []) (b := rt) (rest := []) ⟨hx, hb, hml, hown, hts⟩ (c_Node_depth l D t G ak av h rt 0 1 f_rt) ⟨cw9B 0 hts mw_338 mw_339 mw_40 rfl rfl (by decide +kernel) ⟨Nat.le_of_ble_eq_true rfl, Nat.le_of_ble_eq_true rfl⟩, hts _ mw_340, hts _ mw_341⟩ (hP_V (q := (R_No, F_No, 11)) kE_ok hE hK hH f_rt rfl) rfl rfl hl.1 rfl (lv_room (Nat.le_of_ble_eq_true rfl)) d_Di_directory_33 ⟨Nat.le_of_ble_eq_true rfl, Nat.le_of_ble_eq_true rfl⟩) hLo (fun r7 h8 H9 locs hp11 hH z10 hLo => ?_)
    have hz : s.heap.size ≤ H9.size := Nat.le_trans hz z10
    obtain ⟨rfl, rfl⟩ := hp11
    refine lv_bipush (v := 6) hx hb d_Di_directory_36 (by decide) ?_
    refine lv_icmp_lt (tgt := 44) hx hb d_Di_directory_38 (by decide) (fun hc12 => ?_) (fun hc12 => absurd (by decide) hc12)
    refine lv_aload_n hx hb d_Di_directory_44 rfl (lv_at hl 1 rfl) ?_
    refine lv_aload hx hb d_Di_directory_45 (lv_at hl 0 rfl) ?_
    refine lv_iconst (v := 1) hx hb d_Di_directory_47 (by decide) ?_
    refine lv_lload_n hx hb d_Di_directory_48 rfl (lv_at hl 3 rfl) ?_
    refine hm_calli (va_runV (As := [.ref rt, .int 1, .long wo]) (b := x) (rest := []) ⟨hx, hb, hml, hown, hts⟩ (c_Di_added1 l D t G ak av h x wr rd ns op sr md sl od rt nd fs g wo f_x f_ns f_sl f_od f_rt f_nd hf0 hf1 ne_rt_nd) ⟨cw9B 3 hts mw_342 mw_343 mw_121 rfl rfl (by decide +kernel) ⟨Nat.le_of_ble_eq_true rfl, Nat.le_of_ble_eq_true rfl⟩, hts _ mw_344, hts _ mw_345⟩ (hP_V (q := (R_Di, F_Di, 9)) kE_ok hE hK hH f_x rfl) rfl rfl hl.1 rfl (lv_room (Nat.le_of_ble_eq_true rfl)) d_Di_directory_49 ⟨Nat.le_of_ble_eq_true rfl, Nat.le_of_ble_eq_true rfl⟩) hLo (fun r13 h14 H15 locs hp17 hH z16 hLo => ?_)
    have hz : s.heap.size ≤ H15.size := Nat.le_trans hz z16
    exact W.iret (v := r13) hx hb hr (fun t9 ht hW => ⟨r13, h14, rfl, hp17.imp (fun q => ⟨q.1, fun z => z.2 q.2.1⟩) (fun q => ⟨q.1, hin, q.2.1⟩), by rw [ht]; exact hH, by rw [ht]; exact hz⟩) hLo d_Di_directory_52
  · skip
    refine hm_callr (va_runV (As := [.int nu]) (b := ns) (rest := []) ⟨hx, hb, hml, hown, hts⟩ (c_Nodes_dirOf l D t G ak av h ns sl od rt fs 0 1 nu f_ns f_sl f_rt hf0) ⟨cw9B 1 hts mw_318 mw_319 mw_187 rfl rfl (by decide +kernel) ⟨Nat.le_of_ble_eq_true rfl, Nat.le_of_ble_eq_true rfl⟩, hts _ mw_320, hts _ mw_321⟩ (hP_V (q := (R_Ns, F_Ns, 4)) kE_ok hE hK hH f_ns rfl) rfl rfl hl.1 rfl (lv_room (Nat.le_of_ble_eq_true rfl)) d_Di_directory_21 ⟨Nat.le_of_ble_eq_true rfl, Nat.le_of_ble_eq_true rfl⟩) hLo (fun r18 h19 H20 locs hp22 hH z21 hLo => ?_)
    have hz : s.heap.size ≤ H20.size := Nat.le_trans hz z21
    obtain ⟨hr9, rfl⟩ := hp22
    rw [if_neg hin] at hr9
    subst hr9
    refine W.eq (g2 := F0 m 24 ls [.null]) rfl ?_
    refine lv_astoreN (lv' := [(4, .null), (0, .ref x), (1, .int nu), (2, .long wo)]) hx hb d_Di_directory_24 hl (by decide) rfl (fun ls hl => ?_)
    refine lv_aloadN hx hb d_Di_directory_26 (lv_at hl 0 rfl) ?_
    refine lv_ifnullN (tgt := 41) hx hb d_Di_directory_28 (by decide) ?_
    refine lv_bipush (v := -2) hx hb d_Di_directory_41 (by decide) ?_
    exact W.iret (v := (-2)) hx hb hr (fun t9 ht hW => ⟨(-2), h, rfl, Or.inl ⟨rfl, fun q => hin q.1⟩, by rw [ht]; exact hH, by rw [ht]; exact hz⟩) hLo d_Di_directory_43

set_option maxHeartbeats 4000000 in
set_option maxRecDepth 100000 in
theorem c_Nodes_nodeOf2 (l : Launch) (D : va_G) (t : Nat → ClassId) (G : Heap) (ak av : Nat → Nat) (h : hM) (ns sl od rt nd : Nat) (fs : Nat → Option Nat) (di le : Int32) (wo : Int64) (f_ns : h ns = some (.inr (2, [.ref sl, .ref od, .int (1 + 1), .int (1 + 1)]))) (f_sl : h sl = some (.inl ((t 4), 30, .inr (.inr (.inr (.inr fs)))))) (f_rt : h rt = some (.inr (1, [.int 0, .null, .int 1, .long 0, .int 0, .int 0, .int 0, .int 0, .int 0, .int 0, .int 1]))) (f_nd : h nd = some (.inr (1, [.int 1, .ref rt, .int di, .long wo, .int le, .int 0, .int 0, .int 0, .int 0, .int 0, .int 1]))) (hf0 : fs 0 = some rt) (hf1 : fs 1 = some nd) : Met l y_Ns_nodeOf (.code y_Ns_nodeOf b_Ns_nodeOf 3 (some (.object "WriteOnceDisc$Node")) :: lw_g) { frames := 0, cells := 0, slots := 0, locals := 0 } (hP (kE D t G ak av) D vwCl G h [.ref ns, .int 1]) (hQr D vwCl G (fun r h' => r = some nd ∧ h = h')) 0 0 (fun q => G.size ≤ q) := by
  refine Met.ofW (cc := b_Ns_nodeOf) (maxL := 3) (ret := (some (.object "WriteOnceDisc$Node"))) (by decide) rfl ?_
  intro p e s m args below meth c s₁ Bd hml hv
  obtain ⟨ha, hE, hH⟩ := hv
  have hx := Bd.exec
  have hb := Bd.bytes
  have hr := Bd.returns
  have hts : ∀ w ∈ lw_g, w.before args s = true := fun w hw => atoms_spec (ws := (.code y_Ns_nodeOf b_Ns_nodeOf 3 (some (.object "WriteOnceDisc$Node")) :: lw_g)) Bd.pre w (List.mem_cons_of_mem _ hw)
  have hown : s.vm.findClass R_Ns = some m.cls := findClass_of_methodNamed Bd.named
  have hlocks := Bd.notSynchronized
  have hK := hE.1
  have hH0 := hH
  have hLo : hLc G.size [] := hLc_nil
  have hz : s.heap.size ≤ s.heap.size := Nat.le_refl _
  have hkp : kp [] h h := kp_rf
  have hl := lv_entry [.ref ns, .int 1] (n := 3) (Nat.le_of_ble_eq_true rfl)
  rw [show entryFrame m args 3 = F0 m 0 ((lg_sl [.ref ns, .int 1] ++ List.replicate (3 - (lg_sl [.ref ns, .int 1]).length) Slot.unset).toArray) [] from (by rw [ha]; exact lg_entry_eq m [.ref ns, .int 1] 3)]
  generalize (lg_sl [.ref ns, .int 1] ++ List.replicate (3 - (lg_sl [.ref ns, .int 1]).length) Slot.unset).toArray = ls at hl ⊢
  have hl : lv_has ls 3 [(0, .ref ns), (1, .int 1)] := hl
  refine lv_iconst (v := 0) hx hb d_Ns_nodeOf_0 (by decide) ?_
  refine lv_istore_n (lv' := [(2, .int 0), (0, .ref ns), (1, .int 1)]) hx hb d_Ns_nodeOf_1 rfl hl (by decide) rfl (fun ls hl => ?_)
  refine lv_iload_n hx hb d_Ns_nodeOf_2 rfl (lv_at hl 0 rfl) ?_
  refine lv_aload_n hx hb d_Ns_nodeOf_3 rfl (lv_at hl 1 rfl) ?_
  refine hm_get (ci := 2) (v := .int (1 + 1)) (C := R_Ns) (T := F_Ns) (N := 4) hx hb hts ig_Ns hown hK hH f_ns rfl 2 (by decide) (hts _ mw_37) (fun _ h9 => h9) rfl d_Ns_nodeOf_4 ?_
  refine lv_icmp_ge (tgt := 36) hx hb d_Ns_nodeOf_7 (by decide) (fun hc1 => absurd hc1 (by decide)) (fun hc1 => ?_)
  refine lv_aload_n hx hb d_Ns_nodeOf_10 rfl (lv_at hl 1 rfl) ?_
  refine hm_get (ci := 2) (v := .ref sl) (C := R_Ns) (T := F_Ns) (N := 4) hx hb hts ig_Ns hown hK hH f_ns rfl 0 (by decide) (hts _ mw_35) (fun _ h9 => h9) rfl d_Ns_nodeOf_11 ?_
  refine lv_iload_n hx hb d_Ns_nodeOf_14 rfl (lv_at hl 0 rfl) ?_
  refine hj_aald (v := .ref rt) hx hb hK hH 4 f_sl (C := R_No) rfl 0 (by decide) (by decide) (by decide) (by rw [hf0]; rfl) d_Ns_nodeOf_15 ?_
  refine hm_get (ci := 1) (v := .int 0) (C := R_No) (T := F_No) (N := 11) hx hb hts ig_No hown hK hH f_rt rfl 0 (by decide) (hts _ mw_273) (fun _ h9 => h9) rfl d_Ns_nodeOf_16 ?_
  refine lv_iload_n hx hb d_Ns_nodeOf_19 rfl (lv_at hl 2 rfl) ?_
  refine lv_icmp_ne (tgt := 30) hx hb d_Ns_nodeOf_20 (by decide) (fun hc2 => ?_) (fun hc2 => absurd hc2 (by decide))
  refine lv_iinc (v := 0 + 1) (lv' := [(2, .int (0 + 1)), (0, .ref ns), (1, .int 1)]) hx hb d_Ns_nodeOf_30 hl (k := 0) rfl (by rfl) (by decide) rfl (fun ls hl => ?_)
  refine lv_goto (tgt := 2) hx hb d_Ns_nodeOf_33 (by decide) ?_
  refine lv_iload_n hx hb d_Ns_nodeOf_2 rfl (lv_at hl 0 rfl) ?_
  refine lv_aload_n hx hb d_Ns_nodeOf_3 rfl (lv_at hl 1 rfl) ?_
  refine hm_get (ci := 2) (v := .int (1 + 1)) (C := R_Ns) (T := F_Ns) (N := 4) hx hb hts ig_Ns hown hK hH f_ns rfl 2 (by decide) (hts _ mw_37) (fun _ h9 => h9) rfl d_Ns_nodeOf_4 ?_
  refine lv_icmp_ge (tgt := 36) hx hb d_Ns_nodeOf_7 (by decide) (fun hc3 => absurd hc3 (by decide)) (fun hc3 => ?_)
  refine lv_aload_n hx hb d_Ns_nodeOf_10 rfl (lv_at hl 1 rfl) ?_
  refine hm_get (ci := 2) (v := .ref sl) (C := R_Ns) (T := F_Ns) (N := 4) hx hb hts ig_Ns hown hK hH f_ns rfl 0 (by decide) (hts _ mw_35) (fun _ h9 => h9) rfl d_Ns_nodeOf_11 ?_
  refine lv_iload_n hx hb d_Ns_nodeOf_14 rfl (lv_at hl 0 rfl) ?_
  refine hj_aald (v := .ref nd) hx hb hK hH 4 f_sl (C := R_No) rfl 1 (by decide) (by decide) (by decide) (by rw [hf1]; rfl) d_Ns_nodeOf_15 ?_
  refine hm_get (ci := 1) (v := .int 1) (C := R_No) (T := F_No) (N := 11) hx hb hts ig_No hown hK hH f_nd rfl 0 (by decide) (hts _ mw_273) (fun _ h9 => h9) rfl d_Ns_nodeOf_16 ?_
  refine lv_iload_n hx hb d_Ns_nodeOf_19 rfl (lv_at hl 2 rfl) ?_
  refine lv_icmp_ne (tgt := 30) hx hb d_Ns_nodeOf_20 (by decide) (fun hc4 => absurd rfl hc4) (fun hc4 => ?_)
  refine lv_aload_n hx hb d_Ns_nodeOf_23 rfl (lv_at hl 1 rfl) ?_
  refine hm_get (ci := 2) (v := .ref sl) (C := R_Ns) (T := F_Ns) (N := 4) hx hb hts ig_Ns hown hK hH f_ns rfl 0 (by decide) (hts _ mw_35) (fun _ h9 => h9) rfl d_Ns_nodeOf_24 ?_
  refine lv_iload_n hx hb d_Ns_nodeOf_27 rfl (lv_at hl 0 rfl) ?_
  refine hj_aald (v := .ref nd) hx hb hK hH 4 f_sl (C := R_No) rfl 1 (by decide) (by decide) (by decide) (by rw [hf1]; rfl) d_Ns_nodeOf_28 ?_
  exact W.aret (v := va_rf (some nd)) hx hb hr (Or.inl ⟨_, rfl⟩) (va_rf_or _) (fun t9 ht hW => ⟨some nd, h, rfl, ⟨rfl, rfl⟩, by rw [ht]; exact hH, by rw [ht]; exact hz⟩) hLo d_Ns_nodeOf_29

set_option maxHeartbeats 4000000 in
set_option maxRecDepth 100000 in
theorem c_x_file (l : Launch) (D : va_G) (t : Nat → ClassId) (G : Heap) (ak av : Nat → Nat) (h : hM) (x n : Nat) (nu : Int32) (wo : Int64) (sz sd : Int32) (hX : FrX t h x n) : Met l y_Di_file (.code y_Di_file b_Di_file 9 (some .int) :: lw_g) { frames := 3, cells := 0, slots := 0, locals := 74 } (hP (kE D t G ak av) D vwCl G h [.ref x, .int nu, .long wo, .int sz, .int sd]) (hQi D vwCl G (fun r h' => (r = -2 ∧ ¬ (nu = 0 ∧ tlV wo ≠ 0 ∧ cntC sz sd ≠ 0)) ∨ (r = 1 ∧ nu = 0 ∧ tlV wo ≠ 0 ∧ cntC sz sd ≠ 0))) 0 0 (fun q => G.size ≤ q) := by
  refine Met.ofW (cc := b_Di_file) (maxL := 9) (ret := (some .int)) (by decide) rfl ?_
  intro p e s m args below meth c s₁ Bd hml hv
  obtain ⟨ha, hE, hH⟩ := hv
  have hx := Bd.exec
  have hb := Bd.bytes
  have hr := Bd.returns
  have hts : ∀ w ∈ lw_g, w.before args s = true := fun w hw => atoms_spec (ws := (.code y_Di_file b_Di_file 9 (some .int) :: lw_g)) Bd.pre w (List.mem_cons_of_mem _ hw)
  have hown : s.vm.findClass R_Di = some m.cls := findClass_of_methodNamed Bd.named
  have hlocks := Bd.notSynchronized
  have hK := hE.1
  have hH0 := hH
  have hLo : hLc G.size [] := hLc_nil
  have hz : s.heap.size ≤ s.heap.size := Nat.le_refl _
  have hkp : kp [] h h := kp_rf
  have hl := lv_entry [.ref x, .int nu, .long wo, .int sz, .int sd] (n := 9) (Nat.le_of_ble_eq_true rfl)
  rw [show entryFrame m args 9 = F0 m 0 ((lg_sl [.ref x, .int nu, .long wo, .int sz, .int sd] ++ List.replicate (9 - (lg_sl [.ref x, .int nu, .long wo, .int sz, .int sd]).length) Slot.unset).toArray) [] from (by rw [ha]; exact lg_entry_eq m [.ref x, .int nu, .long wo, .int sz, .int sd] 9)]
  generalize (lg_sl [.ref x, .int nu, .long wo, .int sz, .int sd] ++ List.replicate (9 - (lg_sl [.ref x, .int nu, .long wo, .int sz, .int sd]).length) Slot.unset).toArray = ls at hl ⊢
  have hl : lv_has ls 9 [(0, .ref x), (1, .int nu), (2, .long wo), (4, .int sz), (5, .int sd)] := hl
  obtain ⟨wr, rd, ns, op, sr, md, su, pg, pb, sl, od, sa, fs, g, fa, f_x, f_wr, f_su, f_pg, f_pb, f_ns, f_sl, f_od, hgf, hnd, f_md, f_sa, hrow, ne_sl_od, hn40, hn⟩ := hX
  obtain ⟨rt, hf0, f_rt⟩ := hnd.2 0 (by decide) (by decide)
  obtain ⟨nd, hf1, f_nd⟩ := hnd.2 1 (by decide) (by decide)
  have ne_rt_nd : rt ≠ nd := fun q => absurd (hnd.1 0 1 (by decide) (by decide) (by rw [hf0, hf1, q])) (by decide)
  refine lv_aload_n hx hb d_Di_file_0 rfl (lv_at hl 0 rfl) ?_
  refine hm_get (ci := 8) (v := .ref wr) (C := R_Di) (T := F_Di) (N := 9) hx hb hts ig_Di hown hK hH f_x rfl 0 (by decide) (hts _ mw_246) (fun _ h9 => h9) rfl d_Di_file_1 ?_
  refine hm_get (ci := 7) (v := .ref su) (C := R_Wr) (T := F_Wr) (N := 2) hx hb hts ig_Wr hown hK hH f_wr rfl 0 (by decide) (hts _ mw_290) (fun _ h9 => h9) rfl d_Di_file_4 ?_
  refine hm_get (ci := 4) (v := .int 0) (C := R_Po) (T := F_Po) (N := 3) hx hb hts ig_Po hown hK hH f_su rfl 1 (by decide) (hts _ mw_314) (fun _ h9 => h9) rfl d_Di_file_7 ?_
  refine lv_if_eq (tgt := 16) hx hb d_Di_file_10 (by decide) (fun hc1 => ?_) (fun hc1 => absurd rfl hc1)
  refine lv_aload_n hx hb d_Di_file_16 rfl (lv_at hl 0 rfl) ?_
  refine hm_get (ci := 8) (v := .ref ns) (C := R_Di) (T := F_Di) (N := 9) hx hb hts ig_Di hown hK hH f_x rfl 2 (by decide) (hts _ mw_258) (fun _ h9 => h9) rfl d_Di_file_17 ?_
  refine lv_iload_n hx hb d_Di_file_20 rfl (lv_at hl 1 rfl) ?_
  by_cases hin : nu = 0
  · skip
    refine hm_callr (va_runV (As := [.int nu]) (b := ns) (rest := []) ⟨hx, hb, hml, hown, hts⟩ (c_Nodes_dirOf l D t G ak av h ns sl od rt fs 0 1 nu f_ns f_sl f_rt hf0) ⟨cw9B 1 hts mw_318 mw_319 mw_187 rfl rfl (by decide +kernel) ⟨Nat.le_of_ble_eq_true rfl, Nat.le_of_ble_eq_true rfl⟩, hts _ mw_320, hts _ mw_321⟩ (hP_V (q := (R_Ns, F_Ns, 4)) kE_ok hE hK hH f_ns rfl) rfl rfl hl.1 rfl (lv_room (Nat.le_of_ble_eq_true rfl)) d_Di_file_21 ⟨Nat.le_of_ble_eq_true rfl, Nat.le_of_ble_eq_true rfl⟩) hLo (fun r2 h3 H4 locs hp6 hH z5 hLo => ?_)
    have hz : s.heap.size ≤ H4.size := Nat.le_trans hz z5
    obtain ⟨hr9, rfl⟩ := hp6
    rw [if_pos hin] at hr9
    subst hr9
    refine W.eq (g2 := F0 m 24 ls [.ref rt]) rfl ?_
    refine lv_astore (lv' := [(6, .ref rt), (0, .ref x), (1, .int nu), (2, .long wo), (4, .int sz), (5, .int sd)]) hx hb d_Di_file_24 hl (by decide) rfl (fun ls hl => ?_)
    refine lv_aload hx hb d_Di_file_26 (lv_at hl 0 rfl) ?_
    refine lv_ifnull hx hb d_Di_file_28 ?_
    refine lv_iload hx hb d_Di_file_31 (lv_at hl 4 rfl) ?_
    refine lv_iload hx hb d_Di_file_33 (lv_at hl 5 rfl) ?_
    refine hm_calli (va_runS (As := [.int sz, .int sd]) (rest := []) ⟨hx, hb, hml, hown, hts⟩ (c_Di_isContent l D t G ak av h sz sd) ⟨cw9B 2 hts mw_346 mw_347 mw_121 rfl rfl (by decide +kernel) ⟨Nat.le_of_ble_eq_true rfl, Nat.le_of_ble_eq_true rfl⟩, hts _ mw_348⟩ (hP_S kE_ok hE hH) rfl rfl hl.1 rfl (lv_room (Nat.le_of_ble_eq_true rfl)) d_Di_file_35 ⟨Nat.le_of_ble_eq_true rfl, Nat.le_of_ble_eq_true rfl⟩) hLo (fun r7 h8 H9 locs hp11 hH z10 hLo => ?_)
    have hz : s.heap.size ≤ H9.size := Nat.le_trans hz z10
    obtain ⟨rfl, rfl⟩ := hp11
    refine lv_if_ne (tgt := 44) hx hb d_Di_file_38 (by decide) (fun hc12 => ?_) (fun hc12 => ?_)
    · skip
      refine lv_aload_n hx hb d_Di_file_44 rfl (lv_at hl 1 rfl) ?_
      refine lv_aload hx hb d_Di_file_45 (lv_at hl 0 rfl) ?_
      refine lv_iconst (v := 0) hx hb d_Di_file_47 (by decide) ?_
      refine lv_lload_n hx hb d_Di_file_48 rfl (lv_at hl 3 rfl) ?_
      refine hm_calli (va_runV (As := [.ref rt, .int 0, .long wo]) (b := x) (rest := []) ⟨hx, hb, hml, hown, hts⟩ (c_Di_added0 l D t G ak av h x wr rd ns op sr md sl od rt nd fs g wo f_x f_ns f_sl f_od f_rt f_nd hf0 hf1 ne_rt_nd) ⟨cw9B 3 hts mw_342 mw_343 mw_121 rfl rfl (by decide +kernel) ⟨Nat.le_of_ble_eq_true rfl, Nat.le_of_ble_eq_true rfl⟩, hts _ mw_344, hts _ mw_345⟩ (hP_V (q := (R_Di, F_Di, 9)) kE_ok hE hK hH f_x rfl) rfl rfl hl.1 rfl (lv_room (Nat.le_of_ble_eq_true rfl)) d_Di_file_49 ⟨Nat.le_of_ble_eq_true rfl, Nat.le_of_ble_eq_true rfl⟩) hLo (fun r13 h14 H15 locs hp17 hH z16 hLo => ?_)
      have hz : s.heap.size ≤ H15.size := Nat.le_trans hz z16
      rcases hp17 with ⟨rfl, hw9, hh9⟩ | ⟨rfl, hw9, hk9, hns9, le, hnd9⟩
      · skip
        subst hh9
        refine lv_istore (lv' := [(7, .int (-2)), (6, .ref rt), (0, .ref x), (1, .int nu), (2, .long wo), (4, .int sz), (5, .int sd)]) hx hb d_Di_file_52 hl (by decide) rfl (fun ls hl => ?_)
        refine lv_aload_n hx hb d_Di_file_54 rfl (lv_at hl 2 rfl) ?_
        refine hm_get (ci := 8) (v := .ref ns) (C := R_Di) (T := F_Di) (N := 9) hx hb hts ig_Di hown hK hH f_x rfl 2 (by decide) (hts _ mw_258) (fun _ h9 => h9) rfl d_Di_file_55 ?_
        refine lv_iload hx hb d_Di_file_58 (lv_at hl 0 rfl) ?_
        have hin9 : ¬ (-2 : Int32) = 0 := by decide
        refine hm_callr (va_runV (As := [.int (-2)]) (b := ns) (rest := []) ⟨hx, hb, hml, hown, hts⟩ (c_Nodes_nodeOf l D t G ak av h ns sl od rt fs 0 1 (-2) f_ns f_sl f_rt hf0) ⟨cw9B 1 hts mw_274 mw_315 mw_187 rfl rfl (by decide +kernel) ⟨Nat.le_of_ble_eq_true rfl, Nat.le_of_ble_eq_true rfl⟩, hts _ mw_276, hts _ mw_277⟩ (hP_V (q := (R_Ns, F_Ns, 4)) kE_ok hE hK hH f_ns rfl) rfl rfl hl.1 rfl (lv_room (Nat.le_of_ble_eq_true rfl)) d_Di_file_60 ⟨Nat.le_of_ble_eq_true rfl, Nat.le_of_ble_eq_true rfl⟩) hLo (fun r18 h19 H20 locs hp22 hH z21 hLo => ?_)
        have hz : s.heap.size ≤ H20.size := Nat.le_trans hz z21
        obtain ⟨hr9, rfl⟩ := hp22
        rw [if_neg hin9] at hr9
        subst hr9
        refine W.eq (g2 := F0 m 63 ls [.null]) rfl ?_
        refine lv_astoreN (lv' := [(8, .null), (7, .int (-2)), (6, .ref rt), (0, .ref x), (1, .int nu), (2, .long wo), (4, .int sz), (5, .int sd)]) hx hb d_Di_file_63 hl (by decide) rfl (fun ls hl => ?_)
        refine lv_aloadN hx hb d_Di_file_65 (lv_at hl 0 rfl) ?_
        refine lv_ifnullN (tgt := 79) hx hb d_Di_file_67 (by decide) ?_
        refine lv_iload hx hb d_Di_file_79 (lv_at hl 1 rfl) ?_
        exact W.iret (v := (-2)) hx hb hr (fun t9 ht hW => ⟨(-2), h, rfl, Or.inl ⟨rfl, fun q => q.2.1 hw9⟩, by rw [ht]; exact hH, by rw [ht]; exact hz⟩) hLo d_Di_file_81
      · skip
        have f_x : h14 x = some (.inr (8, [.ref wr, .ref rd, .ref ns, .ref md, .null, .int 0, .int 0, .ref op, .ref sr])) := kp_at hk9 f_x (nmc (h_neC f_x f_ns (by decide)) (nmc (h_neC f_x f_nd (by decide)) nm0))
        have f_wr : h14 wr = some (.inr (7, [.ref su, .ref pg])) := kp_at hk9 f_wr (nmc (h_neC f_wr f_ns (by decide)) (nmc (h_neC f_wr f_nd (by decide)) nm0))
        have f_su : h14 su = some (.inr (4, [.int (-1), .int 0, .int 0])) := kp_at hk9 f_su (nmc (h_neC f_su f_ns (by decide)) (nmc (h_neC f_su f_nd (by decide)) nm0))
        have f_pg : h14 pg = some (.inr (3, [.ref pb])) := kp_at hk9 f_pg (nmc (h_neC f_pg f_ns (by decide)) (nmc (h_neC f_pg f_nd (by decide)) nm0))
        have f_pb : h14 pb = some (.inl ((t 0), 2048, .inl (fun _ => 0))) := kp_at hk9 f_pb (nmc (h_neA f_pb f_ns) (nmc (h_neA f_pb f_nd) nm0))
        have f_sl : h14 sl = some (.inl ((t 4), 30, .inr (.inr (.inr (.inr fs))))) := kp_at hk9 f_sl (nmc (h_neA f_sl f_ns) (nmc (h_neA f_sl f_nd) nm0))
        have f_od : h14 od = some (.inl ((t 4), 30, .inr (.inr (.inr (.inr g))))) := kp_at hk9 f_od (nmc (h_neA f_od f_ns) (nmc (h_neA f_od f_nd) nm0))
        have f_md : h14 md = some (.inr (0, [.ref sa, .int (nI 0)])) := kp_at hk9 f_md (nmc (h_neC f_md f_ns (by decide)) (nmc (h_neC f_md f_nd (by decide)) nm0))
        have f_sa : h14 sa = some (.inl ((t 5), n, .inr (.inr (.inr (.inr fa))))) := kp_at hk9 f_sa (nmc (h_neA f_sa f_ns) (nmc (h_neA f_sa f_nd) nm0))
        have f_rt : h14 rt = some (.inr (1, [.int 0, .null, .int 1, .long 0, .int 0, .int 0, .int 0, .int 0, .int 0, .int 0, .int 1])) := kp_at hk9 f_rt (nmc (h_neC f_rt f_ns (by decide)) (nmc ne_rt_nd nm0))
        have f_ns : h14 ns = some (.inr (2, [.ref sl, .ref od, .int (1 + 1), .int (1 + 1)])) := hns9
        have f_nd : h14 nd = some (.inr (1, [.int 1, .ref rt, .int 0, .long (tlV wo), .int le, .int 0, .int 0, .int 0, .int 0, .int 0, .int 1])) := hnd9
        refine lv_istore (lv' := [(7, .int 1), (6, .ref rt), (0, .ref x), (1, .int nu), (2, .long wo), (4, .int sz), (5, .int sd)]) hx hb d_Di_file_52 hl (by decide) rfl (fun ls hl => ?_)
        refine lv_aload_n hx hb d_Di_file_54 rfl (lv_at hl 2 rfl) ?_
        refine hm_get (ci := 8) (v := .ref ns) (C := R_Di) (T := F_Di) (N := 9) hx hb hts ig_Di hown hK hH f_x rfl 2 (by decide) (hts _ mw_258) (fun _ h9 => h9) rfl d_Di_file_55 ?_
        refine lv_iload hx hb d_Di_file_58 (lv_at hl 0 rfl) ?_
        refine hm_callr (va_runV (As := [.int 1]) (b := ns) (rest := []) ⟨hx, hb, hml, hown, hts⟩ (c_Nodes_nodeOf2 l D t G ak av h14 ns sl od rt nd fs 0 le (tlV wo) f_ns f_sl f_rt f_nd hf0 hf1) ⟨cw9B 1 hts mw_274 mw_315 mw_187 rfl rfl (by decide +kernel) ⟨Nat.le_of_ble_eq_true rfl, Nat.le_of_ble_eq_true rfl⟩, hts _ mw_276, hts _ mw_277⟩ (hP_V (q := (R_Ns, F_Ns, 4)) kE_ok hE hK hH f_ns rfl) rfl rfl hl.1 rfl (lv_room (Nat.le_of_ble_eq_true rfl)) d_Di_file_60 ⟨Nat.le_of_ble_eq_true rfl, Nat.le_of_ble_eq_true rfl⟩) hLo (fun r23 h24 H25 locs hp27 hH z26 hLo => ?_)
        have hz : s.heap.size ≤ H25.size := Nat.le_trans hz z26
        obtain ⟨rfl, rfl⟩ := hp27
        refine W.eq (g2 := F0 m 63 ls [.ref nd]) rfl ?_
        refine lv_astore (lv' := [(8, .ref nd), (7, .int 1), (6, .ref rt), (0, .ref x), (1, .int nu), (2, .long wo), (4, .int sz), (5, .int sd)]) hx hb d_Di_file_63 hl (by decide) rfl (fun ls hl => ?_)
        refine lv_aload hx hb d_Di_file_65 (lv_at hl 0 rfl) ?_
        refine lv_ifnull hx hb d_Di_file_67 ?_
        refine lv_aload hx hb d_Di_file_70 (lv_at hl 0 rfl) ?_
        refine lv_iload hx hb d_Di_file_72 (lv_at hl 6 rfl) ?_
        refine lv_iload hx hb d_Di_file_74 (lv_at hl 7 rfl) ?_
        refine hm_callv (va_runV (As := [.int sz, .int sd]) (b := nd) (rest := []) ⟨hx, hb, hml, hown, hts⟩ (c_Node_takeContent l D t G ak av h14 nd rt 0 le sz sd (tlV wo) f_nd) ⟨cw9B 2 hts mw_282 mw_349 mw_40 rfl rfl (by decide +kernel) ⟨Nat.le_of_ble_eq_true rfl, Nat.le_of_ble_eq_true rfl⟩, hts _ mw_284, hts _ mw_285⟩ (hP_V (q := (R_No, F_No, 11)) kE_ok hE hK hH f_nd rfl) rfl rfl hl.1 rfl (lv_room (Nat.le_of_ble_eq_true rfl)) d_Di_file_76 ⟨Nat.le_of_ble_eq_true rfl, Nat.le_of_ble_eq_true rfl⟩) hLo (fun h28 H29 locs hp31 hH z30 hLo => ?_)
        have hz : s.heap.size ≤ H29.size := Nat.le_trans hz z30
        refine lv_iload hx hb d_Di_file_79 (lv_at hl 1 rfl) ?_
        exact W.iret (v := 1) hx hb hr (fun t9 ht hW => ⟨1, h28, rfl, Or.inr ⟨rfl, hin, hw9, hc12⟩, by rw [ht]; exact hH, by rw [ht]; exact hz⟩) hLo d_Di_file_81
    · skip
      refine lv_bipush (v := -2) hx hb d_Di_file_41 (by decide) ?_
      exact W.iret (v := (-2)) hx hb hr (fun t9 ht hW => ⟨(-2), h, rfl, Or.inl ⟨rfl, fun q => q.2.2 hc12⟩, by rw [ht]; exact hH, by rw [ht]; exact hz⟩) hLo d_Di_file_43
  · skip
    refine hm_callr (va_runV (As := [.int nu]) (b := ns) (rest := []) ⟨hx, hb, hml, hown, hts⟩ (c_Nodes_dirOf l D t G ak av h ns sl od rt fs 0 1 nu f_ns f_sl f_rt hf0) ⟨cw9B 1 hts mw_318 mw_319 mw_187 rfl rfl (by decide +kernel) ⟨Nat.le_of_ble_eq_true rfl, Nat.le_of_ble_eq_true rfl⟩, hts _ mw_320, hts _ mw_321⟩ (hP_V (q := (R_Ns, F_Ns, 4)) kE_ok hE hK hH f_ns rfl) rfl rfl hl.1 rfl (lv_room (Nat.le_of_ble_eq_true rfl)) d_Di_file_21 ⟨Nat.le_of_ble_eq_true rfl, Nat.le_of_ble_eq_true rfl⟩) hLo (fun r32 h33 H34 locs hp36 hH z35 hLo => ?_)
    have hz : s.heap.size ≤ H34.size := Nat.le_trans hz z35
    obtain ⟨hr9, rfl⟩ := hp36
    rw [if_neg hin] at hr9
    subst hr9
    refine W.eq (g2 := F0 m 24 ls [.null]) rfl ?_
    refine lv_astoreN (lv' := [(6, .null), (0, .ref x), (1, .int nu), (2, .long wo), (4, .int sz), (5, .int sd)]) hx hb d_Di_file_24 hl (by decide) rfl (fun ls hl => ?_)
    refine lv_aloadN hx hb d_Di_file_26 (lv_at hl 0 rfl) ?_
    refine lv_ifnullN (tgt := 41) hx hb d_Di_file_28 (by decide) ?_
    refine lv_bipush (v := -2) hx hb d_Di_file_41 (by decide) ?_
    exact W.iret (v := (-2)) hx hb hr (fun t9 ht hW => ⟨(-2), h, rfl, Or.inl ⟨rfl, fun q => hin q.1⟩, by rw [ht]; exact hH, by rw [ht]; exact hz⟩) hLo d_Di_file_43
end
