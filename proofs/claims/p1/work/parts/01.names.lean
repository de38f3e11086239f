-- ===== PART A: goes FIRST, ahead of the names: the tables' words, and 'selects' of the private methods out of them =====
/-- a private method of a class that the tables say can be made, by its rows of tables_1 -/
def lw_okq (q : MethodName × Nat) : Prop := (q.1.cls ≠ "java/lang/invoke/MethodHandle" ∧ q.1.cls ≠ "java/lang/invoke/VarHandle") ∧ Cond.instantiable q.1.cls q.2 ∈ tables_1 ∧ Cond.privateMethod q.1 ∈ tables_1 ∧ Cond.instanceMethod q.1 ∈ tables_1
theorem lw_p0 : lw_okq (⟨"TrigramLines", "retire", "(I)Z"⟩, 13) := ⟨⟨by decide +kernel, by decide +kernel⟩, List.mem_of_getElem? (i := 30) (by decide +kernel), List.mem_of_getElem? (i := 141) (by decide +kernel), List.mem_of_getElem? (i := 142) (by decide +kernel)⟩
theorem lw_p1 : lw_okq (⟨"java/util/ArrayList", "add", "(Ljava/lang/Object;[Ljava/lang/Object;I)V"⟩, 3) := ⟨⟨by decide +kernel, by decide +kernel⟩, List.mem_of_getElem? (i := 46) (by decide +kernel), List.mem_of_getElem? (i := 171) (by decide +kernel), List.mem_of_getElem? (i := 172) (by decide +kernel)⟩
theorem lw_p2 : lw_okq (⟨"java/util/ArrayList", "grow", "()[Ljava/lang/Object;"⟩, 3) := ⟨⟨by decide +kernel, by decide +kernel⟩, List.mem_of_getElem? (i := 46) (by decide +kernel), List.mem_of_getElem? (i := 175) (by decide +kernel), List.mem_of_getElem? (i := 176) (by decide +kernel)⟩
theorem lw_p3 : lw_okq (⟨"java/util/ArrayList", "grow", "(I)[Ljava/lang/Object;"⟩, 3) := ⟨⟨by decide +kernel, by decide +kernel⟩, List.mem_of_getElem? (i := 46) (by decide +kernel), List.mem_of_getElem? (i := 179) (by decide +kernel), List.mem_of_getElem? (i := 180) (by decide +kernel)⟩
theorem lw_p4 : lw_okq (⟨"TrigramLines", "sealOpen", "()V"⟩, 13) := ⟨⟨by decide +kernel, by decide +kernel⟩, List.mem_of_getElem? (i := 30) (by decide +kernel), List.mem_of_getElem? (i := 233) (by decide +kernel), List.mem_of_getElem? (i := 234) (by decide +kernel)⟩
theorem lw_p5 : lw_okq (⟨"TrigramLines", "settle", "()V"⟩, 13) := ⟨⟨by decide +kernel, by decide +kernel⟩, List.mem_of_getElem? (i := 30) (by decide +kernel), List.mem_of_getElem? (i := 238) (by decide +kernel), List.mem_of_getElem? (i := 239) (by decide +kernel)⟩
theorem lw_p6 : lw_okq (⟨"TrigramLines", "newestAreAlike", "()Z"⟩, 13) := ⟨⟨by decide +kernel, by decide +kernel⟩, List.mem_of_getElem? (i := 30) (by decide +kernel), List.mem_of_getElem? (i := 243) (by decide +kernel), List.mem_of_getElem? (i := 244) (by decide +kernel)⟩
theorem lw_p7 : lw_okq (⟨"TrigramLines", "mergeNewest", "()V"⟩, 13) := ⟨⟨by decide +kernel, by decide +kernel⟩, List.mem_of_getElem? (i := 30) (by decide +kernel), List.mem_of_getElem? (i := 261) (by decide +kernel), List.mem_of_getElem? (i := 262) (by decide +kernel)⟩
theorem lw_p8 : lw_okq (⟨"java/util/ArrayList", "fastRemove", "([Ljava/lang/Object;I)V"⟩, 3) := ⟨⟨by decide +kernel, by decide +kernel⟩, List.mem_of_getElem? (i := 46) (by decide +kernel), List.mem_of_getElem? (i := 269) (by decide +kernel), List.mem_of_getElem? (i := 270) (by decide +kernel)⟩
theorem lw_p9 : lw_okq (⟨"TrigramLines", "readPattern", "()LTrigramLines$Reader;"⟩, 13) := ⟨⟨by decide +kernel, by decide +kernel⟩, List.mem_of_getElem? (i := 30) (by decide +kernel), List.mem_of_getElem? (i := 301) (by decide +kernel), List.mem_of_getElem? (i := 302) (by decide +kernel)⟩
theorem lw_p10 : lw_okq (⟨"TrigramLines$Reader", "readFrom", "(C)V"⟩, 7) := ⟨⟨by decide +kernel, by decide +kernel⟩, List.mem_of_getElem? (i := 305) (by decide +kernel), List.mem_of_getElem? (i := 437) (by decide +kernel), List.mem_of_getElem? (i := 438) (by decide +kernel)⟩
theorem lw_p11 : lw_okq (⟨"TrigramLines$Reader", "openGroup", "()V"⟩, 7) := ⟨⟨by decide +kernel, by decide +kernel⟩, List.mem_of_getElem? (i := 305) (by decide +kernel), List.mem_of_getElem? (i := 441) (by decide +kernel), List.mem_of_getElem? (i := 442) (by decide +kernel)⟩
theorem lw_p12 : lw_okq (⟨"TrigramLines$Reader", "closeGroup", "()V"⟩, 7) := ⟨⟨by decide +kernel, by decide +kernel⟩, List.mem_of_getElem? (i := 305) (by decide +kernel), List.mem_of_getElem? (i := 445) (by decide +kernel), List.mem_of_getElem? (i := 446) (by decide +kernel)⟩
theorem lw_p13 : lw_okq (⟨"TrigramLines$Reader", "branch", "()LTrigramLines$Branch;"⟩, 7) := ⟨⟨by decide +kernel, by decide +kernel⟩, List.mem_of_getElem? (i := 305) (by decide +kernel), List.mem_of_getElem? (i := 449) (by decide +kernel), List.mem_of_getElem? (i := 450) (by decide +kernel)⟩
theorem lw_p14 : lw_okq (⟨"TrigramLines$Reader", "readBar", "()V"⟩, 7) := ⟨⟨by decide +kernel, by decide +kernel⟩, List.mem_of_getElem? (i := 305) (by decide +kernel), List.mem_of_getElem? (i := 466) (by decide +kernel), List.mem_of_getElem? (i := 467) (by decide +kernel)⟩
theorem lw_p15 : lw_okq (⟨"TrigramLines$Reader", "readRepetition", "(C)V"⟩, 7) := ⟨⟨by decide +kernel, by decide +kernel⟩, List.mem_of_getElem? (i := 305) (by decide +kernel), List.mem_of_getElem? (i := 471) (by decide +kernel), List.mem_of_getElem? (i := 472) (by decide +kernel)⟩
def lw_privs_1 : List (MethodName × Nat) := [(⟨"TrigramLines", "retire", "(I)Z"⟩, 13), (⟨"java/util/ArrayList", "add", "(Ljava/lang/Object;[Ljava/lang/Object;I)V"⟩, 3), (⟨"java/util/ArrayList", "grow", "()[Ljava/lang/Object;"⟩, 3), (⟨"java/util/ArrayList", "grow", "(I)[Ljava/lang/Object;"⟩, 3), (⟨"TrigramLines", "sealOpen", "()V"⟩, 13), (⟨"TrigramLines", "settle", "()V"⟩, 13), (⟨"TrigramLines", "newestAreAlike", "()Z"⟩, 13), (⟨"TrigramLines", "mergeNewest", "()V"⟩, 13), (⟨"java/util/ArrayList", "fastRemove", "([Ljava/lang/Object;I)V"⟩, 3), (⟨"TrigramLines", "readPattern", "()LTrigramLines$Reader;"⟩, 13), (⟨"TrigramLines$Reader", "readFrom", "(C)V"⟩, 7), (⟨"TrigramLines$Reader", "openGroup", "()V"⟩, 7), (⟨"TrigramLines$Reader", "closeGroup", "()V"⟩, 7), (⟨"TrigramLines$Reader", "branch", "()LTrigramLines$Branch;"⟩, 7), (⟨"TrigramLines$Reader", "readBar", "()V"⟩, 7), (⟨"TrigramLines$Reader", "readRepetition", "(C)V"⟩, 7)]
theorem lw_r1 : ∀ q ∈ lw_privs_1, lw_okq q := List.forall_mem_cons.mpr ⟨lw_p0, List.forall_mem_cons.mpr ⟨lw_p1, List.forall_mem_cons.mpr ⟨lw_p2, List.forall_mem_cons.mpr ⟨lw_p3, List.forall_mem_cons.mpr ⟨lw_p4, List.forall_mem_cons.mpr ⟨lw_p5, List.forall_mem_cons.mpr ⟨lw_p6, List.forall_mem_cons.mpr ⟨lw_p7, List.forall_mem_cons.mpr ⟨lw_p8, List.forall_mem_cons.mpr ⟨lw_p9, List.forall_mem_cons.mpr ⟨lw_p10, List.forall_mem_cons.mpr ⟨lw_p11, List.forall_mem_cons.mpr ⟨lw_p12, List.forall_mem_cons.mpr ⟨lw_p13, List.forall_mem_cons.mpr ⟨lw_p14, List.forall_mem_cons.mpr ⟨lw_p15, fun _ h => absurd h List.not_mem_nil⟩⟩⟩⟩⟩⟩⟩⟩⟩⟩⟩⟩⟩⟩⟩⟩
theorem lw_p16 : lw_okq (⟨"TrigramLines$Reader", "readBraces", "()V"⟩, 7) := ⟨⟨by decide +kernel, by decide +kernel⟩, List.mem_of_getElem? (i := 305) (by decide +kernel), List.mem_of_getElem? (i := 523) (by decide +kernel), List.mem_of_getElem? (i := 524) (by decide +kernel)⟩
theorem lw_p17 : lw_okq (⟨"TrigramLines$Reader", "digit", "(I)I"⟩, 7) := ⟨⟨by decide +kernel, by decide +kernel⟩, List.mem_of_getElem? (i := 305) (by decide +kernel), List.mem_of_getElem? (i := 527) (by decide +kernel), List.mem_of_getElem? (i := 528) (by decide +kernel)⟩
theorem lw_p18 : lw_okq (⟨"TrigramLines$Reader", "peek", "(I)C"⟩, 7) := ⟨⟨by decide +kernel, by decide +kernel⟩, List.mem_of_getElem? (i := 305) (by decide +kernel), List.mem_of_getElem? (i := 531) (by decide +kernel), List.mem_of_getElem? (i := 532) (by decide +kernel)⟩
theorem lw_p19 : lw_okq (⟨"TrigramLines$Reader", "readEscape", "()V"⟩, 7) := ⟨⟨by decide +kernel, by decide +kernel⟩, List.mem_of_getElem? (i := 305) (by decide +kernel), List.mem_of_getElem? (i := 535) (by decide +kernel), List.mem_of_getElem? (i := 536) (by decide +kernel)⟩
theorem lw_p20 : lw_okq (⟨"TrigramLines$Reader", "addSet", "(CC)V"⟩, 7) := ⟨⟨by decide +kernel, by decide +kernel⟩, List.mem_of_getElem? (i := 305) (by decide +kernel), List.mem_of_getElem? (i := 622) (by decide +kernel), List.mem_of_getElem? (i := 623) (by decide +kernel)⟩
theorem lw_p21 : lw_okq (⟨"TrigramLines$Reader", "readSet", "()V"⟩, 7) := ⟨⟨by decide +kernel, by decide +kernel⟩, List.mem_of_getElem? (i := 305) (by decide +kernel), List.mem_of_getElem? (i := 662) (by decide +kernel), List.mem_of_getElem? (i := 663) (by decide +kernel)⟩
theorem lw_p22 : lw_okq (⟨"TrigramLines$Reader", "readItem", "(LTrigramLines$CharacterSet;)V"⟩, 7) := ⟨⟨by decide +kernel, by decide +kernel⟩, List.mem_of_getElem? (i := 305) (by decide +kernel), List.mem_of_getElem? (i := 672) (by decide +kernel), List.mem_of_getElem? (i := 673) (by decide +kernel)⟩
theorem lw_p23 : lw_okq (⟨"TrigramLines$Reader", "readClass", "(LTrigramLines$CharacterSet;)V"⟩, 7) := ⟨⟨by decide +kernel, by decide +kernel⟩, List.mem_of_getElem? (i := 305) (by decide +kernel), List.mem_of_getElem? (i := 676) (by decide +kernel), List.mem_of_getElem? (i := 677) (by decide +kernel)⟩
theorem lw_p24 : lw_okq (⟨"TrigramLines$Reader", "stands", "(Ljava/lang/String;)Z"⟩, 7) := ⟨⟨by decide +kernel, by decide +kernel⟩, List.mem_of_getElem? (i := 305) (by decide +kernel), List.mem_of_getElem? (i := 681) (by decide +kernel), List.mem_of_getElem? (i := 682) (by decide +kernel)⟩
theorem lw_p25 : lw_okq (⟨"TrigramLines$Reader", "faultAtEnd", "()I"⟩, 7) := ⟨⟨by decide +kernel, by decide +kernel⟩, List.mem_of_getElem? (i := 305) (by decide +kernel), List.mem_of_getElem? (i := 707) (by decide +kernel), List.mem_of_getElem? (i := 708) (by decide +kernel)⟩
theorem lw_p26 : lw_okq (⟨"TrigramLines$CharacterSet", "contains", "(I)Z"⟩, 4) := ⟨⟨by decide +kernel, by decide +kernel⟩, List.mem_of_getElem? (i := 626) (by decide +kernel), List.mem_of_getElem? (i := 767) (by decide +kernel), List.mem_of_getElem? (i := 768) (by decide +kernel)⟩
theorem lw_p27 : lw_okq (⟨"TrigramLines$Words", "keepWritten", "()Z"⟩, 3) := ⟨⟨by decide +kernel, by decide +kernel⟩, List.mem_of_getElem? (i := 345) (by decide +kernel), List.mem_of_getElem? (i := 775) (by decide +kernel), List.mem_of_getElem? (i := 776) (by decide +kernel)⟩
theorem lw_p28 : lw_okq (⟨"TrigramLines$Words", "isWritten", "(I)Z"⟩, 3) := ⟨⟨by decide +kernel, by decide +kernel⟩, List.mem_of_getElem? (i := 345) (by decide +kernel), List.mem_of_getElem? (i := 779) (by decide +kernel), List.mem_of_getElem? (i := 780) (by decide +kernel)⟩
theorem lw_p29 : lw_okq (⟨"TrigramLines$Version", "hasTrigramsOf", "(LTrigramLines$Words;I)Z"⟩, 2) := ⟨⟨by decide +kernel, by decide +kernel⟩, List.mem_of_getElem? (i := 144) (by decide +kernel), List.mem_of_getElem? (i := 842) (by decide +kernel), List.mem_of_getElem? (i := 843) (by decide +kernel)⟩
theorem lw_p30 : lw_okq (⟨"TrigramLines", "findHits", "(LTrigramLines$Group;[CI)V"⟩, 13) := ⟨⟨by decide +kernel, by decide +kernel⟩, List.mem_of_getElem? (i := 30) (by decide +kernel), List.mem_of_getElem? (i := 872) (by decide +kernel), List.mem_of_getElem? (i := 873) (by decide +kernel)⟩
theorem lw_p31 : lw_okq (⟨"TrigramLines", "findHit", "(LTrigramLines$Group;[CIII)V"⟩, 13) := ⟨⟨by decide +kernel, by decide +kernel⟩, List.mem_of_getElem? (i := 30) (by decide +kernel), List.mem_of_getElem? (i := 878) (by decide +kernel), List.mem_of_getElem? (i := 879) (by decide +kernel)⟩
def lw_privs_2 : List (MethodName × Nat) := [(⟨"TrigramLines$Reader", "readBraces", "()V"⟩, 7), (⟨"TrigramLines$Reader", "digit", "(I)I"⟩, 7), (⟨"TrigramLines$Reader", "peek", "(I)C"⟩, 7), (⟨"TrigramLines$Reader", "readEscape", "()V"⟩, 7), (⟨"TrigramLines$Reader", "addSet", "(CC)V"⟩, 7), (⟨"TrigramLines$Reader", "readSet", "()V"⟩, 7), (⟨"TrigramLines$Reader", "readItem", "(LTrigramLines$CharacterSet;)V"⟩, 7), (⟨"TrigramLines$Reader", "readClass", "(LTrigramLines$CharacterSet;)V"⟩, 7), (⟨"TrigramLines$Reader", "stands", "(Ljava/lang/String;)Z"⟩, 7), (⟨"TrigramLines$Reader", "faultAtEnd", "()I"⟩, 7), (⟨"TrigramLines$CharacterSet", "contains", "(I)Z"⟩, 4), (⟨"TrigramLines$Words", "keepWritten", "()Z"⟩, 3), (⟨"TrigramLines$Words", "isWritten", "(I)Z"⟩, 3), (⟨"TrigramLines$Version", "hasTrigramsOf", "(LTrigramLines$Words;I)Z"⟩, 2), (⟨"TrigramLines", "findHits", "(LTrigramLines$Group;[CI)V"⟩, 13), (⟨"TrigramLines", "findHit", "(LTrigramLines$Group;[CIII)V"⟩, 13)]
theorem lw_r2 : ∀ q ∈ lw_privs_2, lw_okq q := List.forall_mem_cons.mpr ⟨lw_p16, List.forall_mem_cons.mpr ⟨lw_p17, List.forall_mem_cons.mpr ⟨lw_p18, List.forall_mem_cons.mpr ⟨lw_p19, List.forall_mem_cons.mpr ⟨lw_p20, List.forall_mem_cons.mpr ⟨lw_p21, List.forall_mem_cons.mpr ⟨lw_p22, List.forall_mem_cons.mpr ⟨lw_p23, List.forall_mem_cons.mpr ⟨lw_p24, List.forall_mem_cons.mpr ⟨lw_p25, List.forall_mem_cons.mpr ⟨lw_p26, List.forall_mem_cons.mpr ⟨lw_p27, List.forall_mem_cons.mpr ⟨lw_p28, List.forall_mem_cons.mpr ⟨lw_p29, List.forall_mem_cons.mpr ⟨lw_p30, List.forall_mem_cons.mpr ⟨lw_p31, fun _ h => absurd h List.not_mem_nil⟩⟩⟩⟩⟩⟩⟩⟩⟩⟩⟩⟩⟩⟩⟩⟩
theorem lw_p32 : lw_okq (⟨"TrigramLines$Repetition", "reachUpTo", "(IJ)J"⟩, 8) := ⟨⟨by decide +kernel, by decide +kernel⟩, List.mem_of_getElem? (i := 486) (by decide +kernel), List.mem_of_getElem? (i := 934) (by decide +kernel), List.mem_of_getElem? (i := 935) (by decide +kernel)⟩
theorem lw_p33 : lw_okq (⟨"TrigramLines$Repetition", "learnClosure", "()V"⟩, 8) := ⟨⟨by decide +kernel, by decide +kernel⟩, List.mem_of_getElem? (i := 486) (by decide +kernel), List.mem_of_getElem? (i := 939) (by decide +kernel), List.mem_of_getElem? (i := 940) (by decide +kernel)⟩
theorem lw_p34 : lw_okq (⟨"TrigramLines$Repetition", "reachClosure", "(J)J"⟩, 8) := ⟨⟨by decide +kernel, by decide +kernel⟩, List.mem_of_getElem? (i := 486) (by decide +kernel), List.mem_of_getElem? (i := 943) (by decide +kernel), List.mem_of_getElem? (i := 944) (by decide +kernel)⟩
theorem lw_p35 : lw_okq (⟨"TrigramLinesModel", "holds", "(I)I"⟩, 42) := ⟨⟨by decide +kernel, by decide +kernel⟩, List.mem_of_getElem? (i := 997) (by decide +kernel), List.mem_of_getElem? (i := 1146) (by decide +kernel), List.mem_of_getElem? (i := 1147) (by decide +kernel)⟩
theorem lw_p36 : lw_okq (⟨"TrigramLinesModel", "seal", "()V"⟩, 42) := ⟨⟨by decide +kernel, by decide +kernel⟩, List.mem_of_getElem? (i := 997) (by decide +kernel), List.mem_of_getElem? (i := 1150) (by decide +kernel), List.mem_of_getElem? (i := 1151) (by decide +kernel)⟩
theorem lw_p37 : lw_okq (⟨"TrigramLinesModel", "merge", "()V"⟩, 42) := ⟨⟨by decide +kernel, by decide +kernel⟩, List.mem_of_getElem? (i := 997) (by decide +kernel), List.mem_of_getElem? (i := 1154) (by decide +kernel), List.mem_of_getElem? (i := 1155) (by decide +kernel)⟩
theorem lw_p38 : lw_okq (⟨"TrigramLinesModel", "holdsLive", "(I)I"⟩, 42) := ⟨⟨by decide +kernel, by decide +kernel⟩, List.mem_of_getElem? (i := 997) (by decide +kernel), List.mem_of_getElem? (i := 1171) (by decide +kernel), List.mem_of_getElem? (i := 1172) (by decide +kernel)⟩
theorem lw_p39 : lw_okq (⟨"TrigramLinesModel", "has", "(IIII)Z"⟩, 42) := ⟨⟨by decide +kernel, by decide +kernel⟩, List.mem_of_getElem? (i := 997) (by decide +kernel), List.mem_of_getElem? (i := 1187) (by decide +kernel), List.mem_of_getElem? (i := 1188) (by decide +kernel)⟩
theorem lw_p40 : lw_okq (⟨"TrigramLinesModel", "read", "()V"⟩, 42) := ⟨⟨by decide +kernel, by decide +kernel⟩, List.mem_of_getElem? (i := 997) (by decide +kernel), List.mem_of_getElem? (i := 1203) (by decide +kernel), List.mem_of_getElem? (i := 1204) (by decide +kernel)⟩
theorem lw_p41 : lw_okq (⟨"TrigramLinesModel", "begin", "()V"⟩, 42) := ⟨⟨by decide +kernel, by decide +kernel⟩, List.mem_of_getElem? (i := 997) (by decide +kernel), List.mem_of_getElem? (i := 1207) (by decide +kernel), List.mem_of_getElem? (i := 1208) (by decide +kernel)⟩
theorem lw_p42 : lw_okq (⟨"TrigramLinesModel", "one", "()V"⟩, 42) := ⟨⟨by decide +kernel, by decide +kernel⟩, List.mem_of_getElem? (i := 997) (by decide +kernel), List.mem_of_getElem? (i := 1211) (by decide +kernel), List.mem_of_getElem? (i := 1212) (by decide +kernel)⟩
theorem lw_p43 : lw_okq (⟨"TrigramLinesModel", "ahead", "(I)I"⟩, 42) := ⟨⟨by decide +kernel, by decide +kernel⟩, List.mem_of_getElem? (i := 997) (by decide +kernel), List.mem_of_getElem? (i := 1215) (by decide +kernel), List.mem_of_getElem? (i := 1216) (by decide +kernel)⟩
theorem lw_p44 : lw_okq (⟨"TrigramLinesModel", "close", "()V"⟩, 42) := ⟨⟨by decide +kernel, by decide +kernel⟩, List.mem_of_getElem? (i := 997) (by decide +kernel), List.mem_of_getElem? (i := 1219) (by decide +kernel), List.mem_of_getElem? (i := 1220) (by decide +kernel)⟩
theorem lw_p45 : lw_okq (⟨"TrigramLinesModel", "bare", "()Z"⟩, 42) := ⟨⟨by decide +kernel, by decide +kernel⟩, List.mem_of_getElem? (i := 997) (by decide +kernel), List.mem_of_getElem? (i := 1223) (by decide +kernel), List.mem_of_getElem? (i := 1224) (by decide +kernel)⟩
theorem lw_p46 : lw_okq (⟨"TrigramLinesModel", "endBranch", "()V"⟩, 42) := ⟨⟨by decide +kernel, by decide +kernel⟩, List.mem_of_getElem? (i := 997) (by decide +kernel), List.mem_of_getElem? (i := 1227) (by decide +kernel), List.mem_of_getElem? (i := 1228) (by decide +kernel)⟩
theorem lw_p47 : lw_okq (⟨"TrigramLinesModel", "part", "(II)I"⟩, 42) := ⟨⟨by decide +kernel, by decide +kernel⟩, List.mem_of_getElem? (i := 997) (by decide +kernel), List.mem_of_getElem? (i := 1231) (by decide +kernel), List.mem_of_getElem? (i := 1232) (by decide +kernel)⟩
def lw_privs_3 : List (MethodName × Nat) := [(⟨"TrigramLines$Repetition", "reachUpTo", "(IJ)J"⟩, 8), (⟨"TrigramLines$Repetition", "learnClosure", "()V"⟩, 8), (⟨"TrigramLines$Repetition", "reachClosure", "(J)J"⟩, 8), (⟨"TrigramLinesModel", "holds", "(I)I"⟩, 42), (⟨"TrigramLinesModel", "seal", "()V"⟩, 42), (⟨"TrigramLinesModel", "merge", "()V"⟩, 42), (⟨"TrigramLinesModel", "holdsLive", "(I)I"⟩, 42), (⟨"TrigramLinesModel", "has", "(IIII)Z"⟩, 42), (⟨"TrigramLinesModel", "read", "()V"⟩, 42), (⟨"TrigramLinesModel", "begin", "()V"⟩, 42), (⟨"TrigramLinesModel", "one", "()V"⟩, 42), (⟨"TrigramLinesModel", "ahead", "(I)I"⟩, 42), (⟨"TrigramLinesModel", "close", "()V"⟩, 42), (⟨"TrigramLinesModel", "bare", "()Z"⟩, 42), (⟨"TrigramLinesModel", "endBranch", "()V"⟩, 42), (⟨"TrigramLinesModel", "part", "(II)I"⟩, 42)]
theorem lw_r3 : ∀ q ∈ lw_privs_3, lw_okq q := List.forall_mem_cons.mpr ⟨lw_p32, List.forall_mem_cons.mpr ⟨lw_p33, List.forall_mem_cons.mpr ⟨lw_p34, List.forall_mem_cons.mpr ⟨lw_p35, List.forall_mem_cons.mpr ⟨lw_p36, List.forall_mem_cons.mpr ⟨lw_p37, List.forall_mem_cons.mpr ⟨lw_p38, List.forall_mem_cons.mpr ⟨lw_p39, List.forall_mem_cons.mpr ⟨lw_p40, List.forall_mem_cons.mpr ⟨lw_p41, List.forall_mem_cons.mpr ⟨lw_p42, List.forall_mem_cons.mpr ⟨lw_p43, List.forall_mem_cons.mpr ⟨lw_p44, List.forall_mem_cons.mpr ⟨lw_p45, List.forall_mem_cons.mpr ⟨lw_p46, List.forall_mem_cons.mpr ⟨lw_p47, fun _ h => absurd h List.not_mem_nil⟩⟩⟩⟩⟩⟩⟩⟩⟩⟩⟩⟩⟩⟩⟩⟩
theorem lw_p48 : lw_okq (⟨"TrigramLinesModel", "whole", "()I"⟩, 42) := ⟨⟨by decide +kernel, by decide +kernel⟩, List.mem_of_getElem? (i := 997) (by decide +kernel), List.mem_of_getElem? (i := 1235) (by decide +kernel), List.mem_of_getElem? (i := 1236) (by decide +kernel)⟩
theorem lw_p49 : lw_okq (⟨"TrigramLinesModel", "addPiece", "(I)V"⟩, 42) := ⟨⟨by decide +kernel, by decide +kernel⟩, List.mem_of_getElem? (i := 997) (by decide +kernel), List.mem_of_getElem? (i := 1239) (by decide +kernel), List.mem_of_getElem? (i := 1240) (by decide +kernel)⟩
theorem lw_p50 : lw_okq (⟨"TrigramLinesModel", "repeat", "(I)V"⟩, 42) := ⟨⟨by decide +kernel, by decide +kernel⟩, List.mem_of_getElem? (i := 997) (by decide +kernel), List.mem_of_getElem? (i := 1243) (by decide +kernel), List.mem_of_getElem? (i := 1244) (by decide +kernel)⟩
theorem lw_p51 : lw_okq (⟨"TrigramLinesModel", "repetition", "(II)V"⟩, 42) := ⟨⟨by decide +kernel, by decide +kernel⟩, List.mem_of_getElem? (i := 997) (by decide +kernel), List.mem_of_getElem? (i := 1247) (by decide +kernel), List.mem_of_getElem? (i := 1248) (by decide +kernel)⟩
theorem lw_p52 : lw_okq (⟨"TrigramLinesModel", "braces", "()V"⟩, 42) := ⟨⟨by decide +kernel, by decide +kernel⟩, List.mem_of_getElem? (i := 997) (by decide +kernel), List.mem_of_getElem? (i := 1251) (by decide +kernel), List.mem_of_getElem? (i := 1252) (by decide +kernel)⟩
theorem lw_p53 : lw_okq (⟨"TrigramLinesModel", "simple", "(I)V"⟩, 42) := ⟨⟨by decide +kernel, by decide +kernel⟩, List.mem_of_getElem? (i := 997) (by decide +kernel), List.mem_of_getElem? (i := 1258) (by decide +kernel), List.mem_of_getElem? (i := 1259) (by decide +kernel)⟩
theorem lw_p54 : lw_okq (⟨"TrigramLinesModel", "setOf", "(II)V"⟩, 42) := ⟨⟨by decide +kernel, by decide +kernel⟩, List.mem_of_getElem? (i := 997) (by decide +kernel), List.mem_of_getElem? (i := 1265) (by decide +kernel), List.mem_of_getElem? (i := 1266) (by decide +kernel)⟩
theorem lw_p55 : lw_okq (⟨"TrigramLinesModel", "bracket", "()V"⟩, 42) := ⟨⟨by decide +kernel, by decide +kernel⟩, List.mem_of_getElem? (i := 997) (by decide +kernel), List.mem_of_getElem? (i := 1269) (by decide +kernel), List.mem_of_getElem? (i := 1270) (by decide +kernel)⟩
theorem lw_p56 : lw_okq (⟨"TrigramLinesModel", "item", "(I)V"⟩, 42) := ⟨⟨by decide +kernel, by decide +kernel⟩, List.mem_of_getElem? (i := 997) (by decide +kernel), List.mem_of_getElem? (i := 1273) (by decide +kernel), List.mem_of_getElem? (i := 1274) (by decide +kernel)⟩
theorem lw_p57 : lw_okq (⟨"TrigramLinesModel", "classItem", "(I)V"⟩, 42) := ⟨⟨by decide +kernel, by decide +kernel⟩, List.mem_of_getElem? (i := 997) (by decide +kernel), List.mem_of_getElem? (i := 1277) (by decide +kernel), List.mem_of_getElem? (i := 1278) (by decide +kernel)⟩
theorem lw_p58 : lw_okq (⟨"TrigramLinesModel", "named", "(IIIII)Z"⟩, 42) := ⟨⟨by decide +kernel, by decide +kernel⟩, List.mem_of_getElem? (i := 997) (by decide +kernel), List.mem_of_getElem? (i := 1281) (by decide +kernel), List.mem_of_getElem? (i := 1282) (by decide +kernel)⟩
theorem lw_p59 : lw_okq (⟨"TrigramLinesModel", "list", "(III)V"⟩, 42) := ⟨⟨by decide +kernel, by decide +kernel⟩, List.mem_of_getElem? (i := 997) (by decide +kernel), List.mem_of_getElem? (i := 1285) (by decide +kernel), List.mem_of_getElem? (i := 1286) (by decide +kernel)⟩
theorem lw_p60 : lw_okq (⟨"TrigramLinesModel", "findStrings", "()V"⟩, 42) := ⟨⟨by decide +kernel, by decide +kernel⟩, List.mem_of_getElem? (i := 997) (by decide +kernel), List.mem_of_getElem? (i := 1297) (by decide +kernel), List.mem_of_getElem? (i := 1298) (by decide +kernel)⟩
theorem lw_p61 : lw_okq (⟨"TrigramLinesModel", "small", "(I)Z"⟩, 42) := ⟨⟨by decide +kernel, by decide +kernel⟩, List.mem_of_getElem? (i := 997) (by decide +kernel), List.mem_of_getElem? (i := 1301) (by decide +kernel), List.mem_of_getElem? (i := 1302) (by decide +kernel)⟩
theorem lw_p62 : lw_okq (⟨"TrigramLinesModel", "unite", "(I)Z"⟩, 42) := ⟨⟨by decide +kernel, by decide +kernel⟩, List.mem_of_getElem? (i := 997) (by decide +kernel), List.mem_of_getElem? (i := 1305) (by decide +kernel), List.mem_of_getElem? (i := 1306) (by decide +kernel)⟩
theorem lw_p63 : lw_okq (⟨"TrigramLinesModel", "add", "(IIII)Z"⟩, 42) := ⟨⟨by decide +kernel, by decide +kernel⟩, List.mem_of_getElem? (i := 997) (by decide +kernel), List.mem_of_getElem? (i := 1309) (by decide +kernel), List.mem_of_getElem? (i := 1310) (by decide +kernel)⟩
def lw_privs_4 : List (MethodName × Nat) := [(⟨"TrigramLinesModel", "whole", "()I"⟩, 42), (⟨"TrigramLinesModel", "addPiece", "(I)V"⟩, 42), (⟨"TrigramLinesModel", "repeat", "(I)V"⟩, 42), (⟨"TrigramLinesModel", "repetition", "(II)V"⟩, 42), (⟨"TrigramLinesModel", "braces", "()V"⟩, 42), (⟨"TrigramLinesModel", "simple", "(I)V"⟩, 42), (⟨"TrigramLinesModel", "setOf", "(II)V"⟩, 42), (⟨"TrigramLinesModel", "bracket", "()V"⟩, 42), (⟨"TrigramLinesModel", "item", "(I)V"⟩, 42), (⟨"TrigramLinesModel", "classItem", "(I)V"⟩, 42), (⟨"TrigramLinesModel", "named", "(IIIII)Z"⟩, 42), (⟨"TrigramLinesModel", "list", "(III)V"⟩, 42), (⟨"TrigramLinesModel", "findStrings", "()V"⟩, 42), (⟨"TrigramLinesModel", "small", "(I)Z"⟩, 42), (⟨"TrigramLinesModel", "unite", "(I)Z"⟩, 42), (⟨"TrigramLinesModel", "add", "(IIII)Z"⟩, 42)]
theorem lw_r4 : ∀ q ∈ lw_privs_4, lw_okq q := List.forall_mem_cons.mpr ⟨lw_p48, List.forall_mem_cons.mpr ⟨lw_p49, List.forall_mem_cons.mpr ⟨lw_p50, List.forall_mem_cons.mpr ⟨lw_p51, List.forall_mem_cons.mpr ⟨lw_p52, List.forall_mem_cons.mpr ⟨lw_p53, List.forall_mem_cons.mpr ⟨lw_p54, List.forall_mem_cons.mpr ⟨lw_p55, List.forall_mem_cons.mpr ⟨lw_p56, List.forall_mem_cons.mpr ⟨lw_p57, List.forall_mem_cons.mpr ⟨lw_p58, List.forall_mem_cons.mpr ⟨lw_p59, List.forall_mem_cons.mpr ⟨lw_p60, List.forall_mem_cons.mpr ⟨lw_p61, List.forall_mem_cons.mpr ⟨lw_p62, List.forall_mem_cons.mpr ⟨lw_p63, fun _ h => absurd h List.not_mem_nil⟩⟩⟩⟩⟩⟩⟩⟩⟩⟩⟩⟩⟩⟩⟩⟩
theorem lw_p64 : lw_okq (⟨"TrigramLinesModel", "sameString", "(IIII)Z"⟩, 42) := ⟨⟨by decide +kernel, by decide +kernel⟩, List.mem_of_getElem? (i := 997) (by decide +kernel), List.mem_of_getElem? (i := 1313) (by decide +kernel), List.mem_of_getElem? (i := 1314) (by decide +kernel)⟩
theorem lw_p65 : lw_okq (⟨"TrigramLinesModel", "copy", "(II)V"⟩, 42) := ⟨⟨by decide +kernel, by decide +kernel⟩, List.mem_of_getElem? (i := 997) (by decide +kernel), List.mem_of_getElem? (i := 1317) (by decide +kernel), List.mem_of_getElem? (i := 1318) (by decide +kernel)⟩
theorem lw_p66 : lw_okq (⟨"TrigramLinesModel", "copyString", "(IIII)V"⟩, 42) := ⟨⟨by decide +kernel, by decide +kernel⟩, List.mem_of_getElem? (i := 997) (by decide +kernel), List.mem_of_getElem? (i := 1321) (by decide +kernel), List.mem_of_getElem? (i := 1322) (by decide +kernel)⟩
theorem lw_p67 : lw_okq (⟨"TrigramLinesModel", "walk", "(II)Z"⟩, 42) := ⟨⟨by decide +kernel, by decide +kernel⟩, List.mem_of_getElem? (i := 997) (by decide +kernel), List.mem_of_getElem? (i := 1325) (by decide +kernel), List.mem_of_getElem? (i := 1326) (by decide +kernel)⟩
theorem lw_p68 : lw_okq (⟨"TrigramLinesModel", "alone", "(I)V"⟩, 42) := ⟨⟨by decide +kernel, by decide +kernel⟩, List.mem_of_getElem? (i := 997) (by decide +kernel), List.mem_of_getElem? (i := 1329) (by decide +kernel), List.mem_of_getElem? (i := 1330) (by decide +kernel)⟩
theorem lw_p69 : lw_okq (⟨"TrigramLinesModel", "join", "(II)Z"⟩, 42) := ⟨⟨by decide +kernel, by decide +kernel⟩, List.mem_of_getElem? (i := 997) (by decide +kernel), List.mem_of_getElem? (i := 1333) (by decide +kernel), List.mem_of_getElem? (i := 1334) (by decide +kernel)⟩
theorem lw_p70 : lw_okq (⟨"TrigramLinesModel", "allows", "(II)Z"⟩, 42) := ⟨⟨by decide +kernel, by decide +kernel⟩, List.mem_of_getElem? (i := 997) (by decide +kernel), List.mem_of_getElem? (i := 1337) (by decide +kernel), List.mem_of_getElem? (i := 1338) (by decide +kernel)⟩
theorem lw_p71 : lw_okq (⟨"TrigramLinesModel", "hasAll", "(III)Z"⟩, 42) := ⟨⟨by decide +kernel, by decide +kernel⟩, List.mem_of_getElem? (i := 997) (by decide +kernel), List.mem_of_getElem? (i := 1341) (by decide +kernel), List.mem_of_getElem? (i := 1342) (by decide +kernel)⟩
theorem lw_p72 : lw_okq (⟨"TrigramLinesModel", "possibleFor", "(I)Z"⟩, 42) := ⟨⟨by decide +kernel, by decide +kernel⟩, List.mem_of_getElem? (i := 997) (by decide +kernel), List.mem_of_getElem? (i := 1349) (by decide +kernel), List.mem_of_getElem? (i := 1350) (by decide +kernel)⟩
theorem lw_p73 : lw_okq (⟨"TrigramLinesModel", "lines", "(II)V"⟩, 42) := ⟨⟨by decide +kernel, by decide +kernel⟩, List.mem_of_getElem? (i := 997) (by decide +kernel), List.mem_of_getElem? (i := 1353) (by decide +kernel), List.mem_of_getElem? (i := 1354) (by decide +kernel)⟩
theorem lw_p74 : lw_okq (⟨"TrigramLinesModel", "line", "(II)V"⟩, 42) := ⟨⟨by decide +kernel, by decide +kernel⟩, List.mem_of_getElem? (i := 997) (by decide +kernel), List.mem_of_getElem? (i := 1357) (by decide +kernel), List.mem_of_getElem? (i := 1358) (by decide +kernel)⟩
theorem lw_p75 : lw_okq (⟨"TrigramLinesModel", "from", "(II)J"⟩, 42) := ⟨⟨by decide +kernel, by decide +kernel⟩, List.mem_of_getElem? (i := 997) (by decide +kernel), List.mem_of_getElem? (i := 1361) (by decide +kernel), List.mem_of_getElem? (i := 1362) (by decide +kernel)⟩
theorem lw_p76 : lw_okq (⟨"TrigramLinesModel", "onwards", "(IJ)J"⟩, 42) := ⟨⟨by decide +kernel, by decide +kernel⟩, List.mem_of_getElem? (i := 997) (by decide +kernel), List.mem_of_getElem? (i := 1365) (by decide +kernel), List.mem_of_getElem? (i := 1366) (by decide +kernel)⟩
def lw_privs_5 : List (MethodName × Nat) := [(⟨"TrigramLinesModel", "sameString", "(IIII)Z"⟩, 42), (⟨"TrigramLinesModel", "copy", "(II)V"⟩, 42), (⟨"TrigramLinesModel", "copyString", "(IIII)V"⟩, 42), (⟨"TrigramLinesModel", "walk", "(II)Z"⟩, 42), (⟨"TrigramLinesModel", "alone", "(I)V"⟩, 42), (⟨"TrigramLinesModel", "join", "(II)Z"⟩, 42), (⟨"TrigramLinesModel", "allows", "(II)Z"⟩, 42), (⟨"TrigramLinesModel", "hasAll", "(III)Z"⟩, 42), (⟨"TrigramLinesModel", "possibleFor", "(I)Z"⟩, 42), (⟨"TrigramLinesModel", "lines", "(II)V"⟩, 42), (⟨"TrigramLinesModel", "line", "(II)V"⟩, 42), (⟨"TrigramLinesModel", "from", "(II)J"⟩, 42), (⟨"TrigramLinesModel", "onwards", "(IJ)J"⟩, 42)]
theorem lw_r5 : ∀ q ∈ lw_privs_5, lw_okq q := List.forall_mem_cons.mpr ⟨lw_p64, List.forall_mem_cons.mpr ⟨lw_p65, List.forall_mem_cons.mpr ⟨lw_p66, List.forall_mem_cons.mpr ⟨lw_p67, List.forall_mem_cons.mpr ⟨lw_p68, List.forall_mem_cons.mpr ⟨lw_p69, List.forall_mem_cons.mpr ⟨lw_p70, List.forall_mem_cons.mpr ⟨lw_p71, List.forall_mem_cons.mpr ⟨lw_p72, List.forall_mem_cons.mpr ⟨lw_p73, List.forall_mem_cons.mpr ⟨lw_p74, List.forall_mem_cons.mpr ⟨lw_p75, List.forall_mem_cons.mpr ⟨lw_p76, fun _ h => absurd h List.not_mem_nil⟩⟩⟩⟩⟩⟩⟩⟩⟩⟩⟩⟩⟩
def lw_privs : List (MethodName × Nat) := lw_privs_1 ++ (lw_privs_2 ++ (lw_privs_3 ++ (lw_privs_4 ++ (lw_privs_5))))
def lw_tbl : List Cond := k2_sels lw_privs ++ tables_1
theorem lw_privs_ok : ∀ q ∈ lw_privs, lw_okq q := by
  show ∀ q ∈ lw_privs_1 ++ (lw_privs_2 ++ (lw_privs_3 ++ (lw_privs_4 ++ (lw_privs_5)))), lw_okq q
  exact List.forall_mem_append.mpr ⟨lw_r1, List.forall_mem_append.mpr ⟨lw_r2, List.forall_mem_append.mpr ⟨lw_r3, List.forall_mem_append.mpr ⟨lw_r4, lw_r5⟩⟩⟩⟩
def Rc0 : String := "TrigramLines"
def Tc0 : u_T := fun k => match k with
  | 0 => ("TrigramLines", "draft", "[C", true)
  | 1 => ("TrigramLines", "draftLength", "I", false)
  | 2 => ("TrigramLines", "pattern", "[C", true)
  | 3 => ("TrigramLines", "patternLength", "I", false)
  | 4 => ("TrigramLines", "latestReader", "LTrigramLines$Reader;", false)
  | 5 => ("TrigramLines", "named", "[LTrigramLines$Version;", true)
  | 6 => ("TrigramLines", "versionCount", "I", false)
  | 7 => ("TrigramLines", "open", "LTrigramLines$Shard;", false)
  | 8 => ("TrigramLines", "sealed", "Ljava/util/ArrayList;", true)
  | 9 => ("TrigramLines", "takenOut", "I", false)
  | 10 => ("TrigramLines", "hits", "[I", true)
  | 11 => ("TrigramLines", "hitCount", "I", false)
  | _ => ("TrigramLines", "possibleNames", "I", false)
def yc0 : Nat → FieldType := fun k => match k with
  | 0 => (.array .char)
  | 1 => .int
  | 2 => (.array .char)
  | 3 => .int
  | 4 => (.object "TrigramLines$Reader")
  | 5 => (.array (.object "TrigramLines$Version"))
  | 6 => .int
  | 7 => (.object "TrigramLines$Shard")
  | 8 => (.object "java/util/ArrayList")
  | 9 => .int
  | 10 => (.array .int)
  | 11 => .int
  | _ => .int
def Rc1 : String := "TrigramLines$Shard"
def Tc1 : u_T := fun k => match k with
  | 0 => ("TrigramLines$Shard", "level", "I", true)
  | _ => ("TrigramLines$Shard", "versions", "Ljava/util/ArrayList;", true)
def yc1 : Nat → FieldType := fun k => match k with
  | 0 => .int
  | _ => (.object "java/util/ArrayList")
def Rc2 : String := "java/util/ArrayList"
def Tc2 : u_T := fun k => match k with
  | 0 => ("java/util/ArrayList", "elementData", "[Ljava/lang/Object;", false)
  | 1 => ("java/util/ArrayList", "size", "I", false)
  | _ => ("java/util/AbstractList", "modCount", "I", false)
def yc2 : Nat → FieldType := fun k => match k with
  | 0 => (.array (.object "java/lang/Object"))
  | 1 => .int
  | _ => .int
def Rc3 : String := "TrigramLines$Version"
def Tc3 : u_T := fun k => match k with
  | 0 => ("TrigramLines$Version", "text", "[C", true)
  | _ => ("TrigramLines$Version", "live", "Z", false)
def yc3 : Nat → FieldType := fun k => match k with
  | 0 => (.array .char)
  | _ => .boolean
def Rc4 : String := "TrigramLines$Reader"
def Tc4 : u_T := fun k => match k with
  | 0 => ("TrigramLines$Reader", "whole", "LTrigramLines$Group;", true)
  | 1 => ("TrigramLines$Reader", "fault", "I", false)
  | 2 => ("TrigramLines$Reader", "pattern", "[C", true)
  | 3 => ("TrigramLines$Reader", "end", "I", true)
  | 4 => ("TrigramLines$Reader", "at", "I", false)
  | 5 => ("TrigramLines$Reader", "groups", "[LTrigramLines$Group;", true)
  | _ => ("TrigramLines$Reader", "openGroups", "I", false)
def yc4 : Nat → FieldType := fun k => match k with
  | 0 => (.object "TrigramLines$Group")
  | 1 => .int
  | 2 => (.array .char)
  | 3 => .int
  | 4 => .int
  | 5 => (.array (.object "TrigramLines$Group"))
  | _ => .int
def Rc5 : String := "TrigramLines$Group"
def Tc5 : u_T := fun k => match k with
  | 0 => ("TrigramLines$Group", "branches", "Ljava/util/ArrayList;", true)
  | 1 => ("TrigramLines$Group", "latest", "LTrigramLines$Branch;", false)
  | _ => ("TrigramLines$Part", "words", "LTrigramLines$Words;", false)
def yc5 : Nat → FieldType := fun k => match k with
  | 0 => (.object "java/util/ArrayList")
  | 1 => (.object "TrigramLines$Branch")
  | _ => (.object "TrigramLines$Words")
def Rc6 : String := "TrigramLines$Branch"
def Tc6 : u_T := fun k => match k with
  | 0 => ("TrigramLines$Branch", "pieces", "Ljava/util/ArrayList;", true)
  | 1 => ("TrigramLines$Branch", "needs", "LTrigramLines$Needs;", true)
  | _ => ("TrigramLines$Part", "words", "LTrigramLines$Words;", false)
def yc6 : Nat → FieldType := fun k => match k with
  | 0 => (.object "java/util/ArrayList")
  | 1 => (.object "TrigramLines$Needs")
  | _ => (.object "TrigramLines$Words")
def Rc7 : String := "TrigramLines$Needs"
def Tc7 : u_T := fun k => match k with
  | 0 => ("TrigramLines$Needs", "allowed", "Ljava/util/ArrayList;", true)
  | 1 => ("TrigramLines$Needs", "parts", "Ljava/util/ArrayList;", true)
  | 2 => ("TrigramLines$Needs", "current", "LTrigramLines$Words;", false)
  | _ => ("TrigramLines$Needs", "allJoined", "Z", false)
def yc7 : Nat → FieldType := fun k => match k with
  | 0 => (.object "java/util/ArrayList")
  | 1 => (.object "java/util/ArrayList")
  | 2 => (.object "TrigramLines$Words")
  | _ => .boolean
def Rc8 : String := "TrigramLines$Words"
def Tc8 : u_T := fun k => match k with
  | 0 => ("TrigramLines$Words", "letters", "[C", true)
  | 1 => ("TrigramLines$Words", "lengths", "[I", true)
  | _ => ("TrigramLines$Words", "count", "I", false)
def yc8 : Nat → FieldType := fun k => match k with
  | 0 => (.array .char)
  | 1 => (.array .int)
  | _ => .int
def Rc9 : String := "TrigramLines$Repetition"
def Tc9 : u_T := fun k => match k with
  | 0 => ("TrigramLines$Repetition", "part", "LTrigramLines$Part;", true)
  | 1 => ("TrigramLines$Repetition", "least", "I", true)
  | 2 => ("TrigramLines$Repetition", "most", "I", true)
  | 3 => ("TrigramLines$Repetition", "needs", "LTrigramLines$Needs;", true)
  | 4 => ("TrigramLines$Repetition", "closure", "[J", true)
  | 5 => ("TrigramLines$Repetition", "closureIsKnown", "Z", false)
  | 6 => ("TrigramLines$Repetition", "lineLength", "I", false)
  | _ => ("TrigramLines$Part", "words", "LTrigramLines$Words;", false)
def yc9 : Nat → FieldType := fun k => match k with
  | 0 => (.object "TrigramLines$Part")
  | 1 => .int
  | 2 => .int
  | 3 => (.object "TrigramLines$Needs")
  | 4 => (.array .long)
  | 5 => .boolean
  | 6 => .int
  | _ => (.object "TrigramLines$Words")
def Rc10 : String := "TrigramLines$CharacterSet"
def Tc10 : u_T := fun k => match k with
  | 0 => ("TrigramLines$CharacterSet", "below64", "J", false)
  | 1 => ("TrigramLines$CharacterSet", "from64", "J", false)
  | 2 => ("TrigramLines$CharacterSet", "places", "J", false)
  | _ => ("TrigramLines$Part", "words", "LTrigramLines$Words;", false)
def yc10 : Nat → FieldType := fun k => match k with
  | 0 => .long
  | 1 => .long
  | 2 => .long
  | _ => (.object "TrigramLines$Words")
def Rc11 : String := "TrigramLines$Anchor"
def Tc11 : u_T := fun k => match k with
  | 0 => ("TrigramLines$Anchor", "isStart", "Z", true)
  | 1 => ("TrigramLines$Anchor", "places", "J", false)
  | _ => ("TrigramLines$Part", "words", "LTrigramLines$Words;", false)
def yc11 : Nat → FieldType := fun k => match k with
  | 0 => .boolean
  | 1 => .long
  | _ => (.object "TrigramLines$Words")
def Rc12 : String := "TrigramLinesModel"
def Tc12 : u_T := fun k => match k with
  | 0 => ("TrigramLinesModel", "text", "[I", true)
  | 1 => ("TrigramLinesModel", "textLength", "[I", true)
  | 2 => ("TrigramLinesModel", "live", "[Z", true)
  | 3 => ("TrigramLinesModel", "in", "[I", true)
  | 4 => ("TrigramLinesModel", "current", "[I", true)
  | 5 => ("TrigramLinesModel", "level", "[I", true)
  | 6 => ("TrigramLinesModel", "sealed", "I", false)
  | 7 => ("TrigramLinesModel", "versions", "I", false)
  | 8 => ("TrigramLinesModel", "taken", "I", false)
  | 9 => ("TrigramLinesModel", "draft", "[I", true)
  | 10 => ("TrigramLinesModel", "draftLength", "I", false)
  | 11 => ("TrigramLinesModel", "pattern", "[I", true)
  | 12 => ("TrigramLinesModel", "patternLength", "I", false)
  | 13 => ("TrigramLinesModel", "parts", "I", false)
  | 14 => ("TrigramLinesModel", "kind", "[I", true)
  | 15 => ("TrigramLinesModel", "child", "[I", true)
  | 16 => ("TrigramLinesModel", "next", "[I", true)
  | 17 => ("TrigramLinesModel", "before", "[I", true)
  | 18 => ("TrigramLinesModel", "low", "[I", true)
  | 19 => ("TrigramLinesModel", "high", "[I", true)
  | 20 => ("TrigramLinesModel", "weight", "[I", true)
  | 21 => ("TrigramLinesModel", "chars", "[Z", true)
  | 22 => ("TrigramLinesModel", "at", "I", false)
  | 23 => ("TrigramLinesModel", "depth", "I", false)
  | 24 => ("TrigramLinesModel", "fault", "I", false)
  | 25 => ("TrigramLinesModel", "firstPiece", "[I", true)
  | 26 => ("TrigramLinesModel", "lastPiece", "[I", true)
  | 27 => ("TrigramLinesModel", "firstBranch", "[I", true)
  | 28 => ("TrigramLinesModel", "lastBranch", "[I", true)
  | 29 => ("TrigramLinesModel", "known", "[Z", true)
  | 30 => ("TrigramLinesModel", "strings", "[I", true)
  | 31 => ("TrigramLinesModel", "letters", "[I", true)
  | 32 => ("TrigramLinesModel", "long4", "[I", true)
  | 33 => ("TrigramLinesModel", "joined", "Z", false)
  | 34 => ("TrigramLinesModel", "may", "[Z", true)
  | 35 => ("TrigramLinesModel", "reach", "[J", true)
  | 36 => ("TrigramLinesModel", "lineStart", "I", false)
  | 37 => ("TrigramLinesModel", "lineLength", "I", false)
  | 38 => ("TrigramLinesModel", "searched", "Z", false)
  | 39 => ("TrigramLinesModel", "possibleNames", "I", false)
  | 40 => ("TrigramLinesModel", "hits", "I", false)
  | _ => ("TrigramLinesModel", "found", "[I", true)
def yc12 : Nat → FieldType := fun k => match k with
  | 0 => (.array .int)
  | 1 => (.array .int)
  | 2 => (.array .boolean)
  | 3 => (.array .int)
  | 4 => (.array .int)
  | 5 => (.array .int)
  | 6 => .int
  | 7 => .int
  | 8 => .int
  | 9 => (.array .int)
  | 10 => .int
  | 11 => (.array .int)
  | 12 => .int
  | 13 => .int
  | 14 => (.array .int)
  | 15 => (.array .int)
  | 16 => (.array .int)
  | 17 => (.array .int)
  | 18 => (.array .int)
  | 19 => (.array .int)
  | 20 => (.array .int)
  | 21 => (.array .boolean)
  | 22 => .int
  | 23 => .int
  | 24 => .int
  | 25 => (.array .int)
  | 26 => (.array .int)
  | 27 => (.array .int)
  | 28 => (.array .int)
  | 29 => (.array .boolean)
  | 30 => (.array .int)
  | 31 => (.array .int)
  | 32 => (.array .int)
  | 33 => .boolean
  | 34 => (.array .boolean)
  | 35 => (.array .long)
  | 36 => .int
  | 37 => .int
  | 38 => .boolean
  | 39 => .int
  | 40 => .int
  | _ => (.array .int)
abbrev vwCl : List vw_C := [(Rc0, Tc0, 13), (Rc1, Tc1, 2), (Rc2, Tc2, 3), (Rc3, Tc3, 2), (Rc4, Tc4, 7), (Rc5, Tc5, 3), (Rc6, Tc6, 3), (Rc7, Tc7, 4), (Rc8, Tc8, 3), (Rc9, Tc9, 8), (Rc10, Tc10, 4), (Rc11, Tc11, 3), (Rc12, Tc12, 42)]
