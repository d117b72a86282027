section
/-- a private method of a class that the tables say can be made, by its rows of tables_1 -/
def lw_okq (q : MethodName × Nat) : Prop := (q.1.cls ≠ "java/lang/invoke/MethodHandle" ∧ q.1.cls ≠ "java/lang/invoke/VarHandle") ∧ Cond.instantiable q.1.cls q.2 ∈ tables_1 ∧ Cond.privateMethod q.1 ∈ tables_1 ∧ Cond.instanceMethod q.1 ∈ tables_1
theorem lw_p0 : lw_okq (⟨"WeightedTrees", "hasGrammar", "()Z"⟩, 7) := ⟨⟨by decide +kernel, by decide +kernel⟩, List.mem_of_getElem? (i := 18) (by decide +kernel), List.mem_of_getElem? (i := 241) (by decide +kernel), List.mem_of_getElem? (i := 242) (by decide +kernel)⟩
theorem lw_p1 : lw_okq (⟨"WeightedTrees$GrammarReader", "isLeftOut", "()Z"⟩, 4) := ⟨⟨by decide +kernel, by decide +kernel⟩, List.mem_of_getElem? (i := 254) (by decide +kernel), List.mem_of_getElem? (i := 289) (by decide +kernel), List.mem_of_getElem? (i := 290) (by decide +kernel)⟩
theorem lw_p2 : lw_okq (⟨"WeightedTrees$GrammarReader", "sees", "(C)Z"⟩, 4) := ⟨⟨by decide +kernel, by decide +kernel⟩, List.mem_of_getElem? (i := 254) (by decide +kernel), List.mem_of_getElem? (i := 293) (by decide +kernel), List.mem_of_getElem? (i := 294) (by decide +kernel)⟩
theorem lw_p3 : lw_okq (⟨"WeightedTrees$GrammarReader", "seen", "()I"⟩, 4) := ⟨⟨by decide +kernel, by decide +kernel⟩, List.mem_of_getElem? (i := 254) (by decide +kernel), List.mem_of_getElem? (i := 297) (by decide +kernel), List.mem_of_getElem? (i := 298) (by decide +kernel)⟩
theorem lw_p4 : lw_okq (⟨"WeightedTrees$GrammarReader", "readRule", "()Z"⟩, 4) := ⟨⟨by decide +kernel, by decide +kernel⟩, List.mem_of_getElem? (i := 254) (by decide +kernel), List.mem_of_getElem? (i := 301) (by decide +kernel), List.mem_of_getElem? (i := 302) (by decide +kernel)⟩
theorem lw_p5 : lw_okq (⟨"WeightedTrees$GrammarReader", "readHead", "(I)Z"⟩, 4) := ⟨⟨by decide +kernel, by decide +kernel⟩, List.mem_of_getElem? (i := 254) (by decide +kernel), List.mem_of_getElem? (i := 305) (by decide +kernel), List.mem_of_getElem? (i := 306) (by decide +kernel)⟩
theorem lw_p6 : lw_okq (⟨"WeightedTrees$GrammarReader", "readSymbol", "()I"⟩, 4) := ⟨⟨by decide +kernel, by decide +kernel⟩, List.mem_of_getElem? (i := 254) (by decide +kernel), List.mem_of_getElem? (i := 312) (by decide +kernel), List.mem_of_getElem? (i := 313) (by decide +kernel)⟩
theorem lw_p7 : lw_okq (⟨"WeightedTrees$GrammarReader", "skip", "(C)Z"⟩, 4) := ⟨⟨by decide +kernel, by decide +kernel⟩, List.mem_of_getElem? (i := 254) (by decide +kernel), List.mem_of_getElem? (i := 320) (by decide +kernel), List.mem_of_getElem? (i := 321) (by decide +kernel)⟩
theorem lw_p8 : lw_okq (⟨"WeightedTrees$GrammarReader", "readBody", "(I)Z"⟩, 4) := ⟨⟨by decide +kernel, by decide +kernel⟩, List.mem_of_getElem? (i := 254) (by decide +kernel), List.mem_of_getElem? (i := 324) (by decide +kernel), List.mem_of_getElem? (i := 325) (by decide +kernel)⟩
theorem lw_p9 : lw_okq (⟨"WeightedTrees$GrammarReader", "readWeight", "(I)Z"⟩, 4) := ⟨⟨by decide +kernel, by decide +kernel⟩, List.mem_of_getElem? (i := 254) (by decide +kernel), List.mem_of_getElem? (i := 331) (by decide +kernel), List.mem_of_getElem? (i := 332) (by decide +kernel)⟩
theorem lw_p10 : lw_okq (⟨"WeightedTrees$GrammarReader", "readNumber", "()I"⟩, 4) := ⟨⟨by decide +kernel, by decide +kernel⟩, List.mem_of_getElem? (i := 254) (by decide +kernel), List.mem_of_getElem? (i := 335) (by decide +kernel), List.mem_of_getElem? (i := 336) (by decide +kernel)⟩
theorem lw_p11 : lw_okq (⟨"WeightedTrees$GrammarReader", "readCost", "(I)Z"⟩, 4) := ⟨⟨by decide +kernel, by decide +kernel⟩, List.mem_of_getElem? (i := 254) (by decide +kernel), List.mem_of_getElem? (i := 343) (by decide +kernel), List.mem_of_getElem? (i := 344) (by decide +kernel)⟩
theorem lw_p12 : lw_okq (⟨"java/lang/Throwable", "fillInStackTrace", "(I)Ljava/lang/Throwable;"⟩, 6) := ⟨⟨by decide +kernel, by decide +kernel⟩, List.mem_of_getElem? (i := 385) (by decide +kernel), List.mem_of_getElem? (i := 383) (by decide +kernel), List.mem_of_getElem? (i := 384) (by decide +kernel)⟩
theorem lw_p13 : lw_okq (⟨"WeightedTrees$Grammar", "emptyable", "()I"⟩, 10) := ⟨⟨by decide +kernel, by decide +kernel⟩, List.mem_of_getElem? (i := 127) (by decide +kernel), List.mem_of_getElem? (i := 419) (by decide +kernel), List.mem_of_getElem? (i := 420) (by decide +kernel)⟩
theorem lw_p14 : lw_okq (⟨"WeightedTrees$Grammar", "vanishes", "(III)Z"⟩, 10) := ⟨⟨by decide +kernel, by decide +kernel⟩, List.mem_of_getElem? (i := 127) (by decide +kernel), List.mem_of_getElem? (i := 423) (by decide +kernel), List.mem_of_getElem? (i := 424) (by decide +kernel)⟩
theorem lw_p15 : lw_okq (⟨"WeightedTrees$Grammar", "findReached", "(I)V"⟩, 10) := ⟨⟨by decide +kernel, by decide +kernel⟩, List.mem_of_getElem? (i := 127) (by decide +kernel), List.mem_of_getElem? (i := 437) (by decide +kernel), List.mem_of_getElem? (i := 438) (by decide +kernel)⟩
def lw_privs_1 : List (MethodName × Nat) := [(⟨"WeightedTrees", "hasGrammar", "()Z"⟩, 7), (⟨"WeightedTrees$GrammarReader", "isLeftOut", "()Z"⟩, 4), (⟨"WeightedTrees$GrammarReader", "sees", "(C)Z"⟩, 4), (⟨"WeightedTrees$GrammarReader", "seen", "()I"⟩, 4), (⟨"WeightedTrees$GrammarReader", "readRule", "()Z"⟩, 4), (⟨"WeightedTrees$GrammarReader", "readHead", "(I)Z"⟩, 4), (⟨"WeightedTrees$GrammarReader", "readSymbol", "()I"⟩, 4), (⟨"WeightedTrees$GrammarReader", "skip", "(C)Z"⟩, 4), (⟨"WeightedTrees$GrammarReader", "readBody", "(I)Z"⟩, 4), (⟨"WeightedTrees$GrammarReader", "readWeight", "(I)Z"⟩, 4), (⟨"WeightedTrees$GrammarReader", "readNumber", "()I"⟩, 4), (⟨"WeightedTrees$GrammarReader", "readCost", "(I)Z"⟩, 4), (⟨"java/lang/Throwable", "fillInStackTrace", "(I)Ljava/lang/Throwable;"⟩, 6), (⟨"WeightedTrees$Grammar", "emptyable", "()I"⟩, 10), (⟨"WeightedTrees$Grammar", "vanishes", "(III)Z"⟩, 10), (⟨"WeightedTrees$Grammar", "findReached", "(I)V"⟩, 10)]
theorem lw_r1 : ∀ q ∈ lw_privs_1, lw_okq q := List.forall_mem_cons.mpr ⟨lw_p0, List.forall_mem_cons.mpr ⟨lw_p1, List.forall_mem_cons.mpr ⟨lw_p2, List.forall_mem_cons.mpr ⟨lw_p3, List.forall_mem_cons.mpr ⟨lw_p4, List.forall_mem_cons.mpr ⟨lw_p5, List.forall_mem_cons.mpr ⟨lw_p6, List.forall_mem_cons.mpr ⟨lw_p7, List.forall_mem_cons.mpr ⟨lw_p8, List.forall_mem_cons.mpr ⟨lw_p9, List.forall_mem_cons.mpr ⟨lw_p10, List.forall_mem_cons.mpr ⟨lw_p11, List.forall_mem_cons.mpr ⟨lw_p12, List.forall_mem_cons.mpr ⟨lw_p13, List.forall_mem_cons.mpr ⟨lw_p14, List.forall_mem_cons.mpr ⟨lw_p15, fun _ h => absurd h List.not_mem_nil⟩⟩⟩⟩⟩⟩⟩⟩⟩⟩⟩⟩⟩⟩⟩⟩
theorem lw_p16 : lw_okq (⟨"WeightedTrees$Grammar", "closeReached", "()V"⟩, 10) := ⟨⟨by decide +kernel, by decide +kernel⟩, List.mem_of_getElem? (i := 127) (by decide +kernel), List.mem_of_getElem? (i := 441) (by decide +kernel), List.mem_of_getElem? (i := 442) (by decide +kernel)⟩
theorem lw_p17 : lw_okq (⟨"WeightedTrees", "takeSpareGrammar", "()V"⟩, 7) := ⟨⟨by decide +kernel, by decide +kernel⟩, List.mem_of_getElem? (i := 18) (by decide +kernel), List.mem_of_getElem? (i := 467) (by decide +kernel), List.mem_of_getElem? (i := 468) (by decide +kernel)⟩
theorem lw_p18 : lw_okq (⟨"WeightedTrees$Chart", "addRule", "(LWeightedTrees$Grammar;III)V"⟩, 10) := ⟨⟨by decide +kernel, by decide +kernel⟩, List.mem_of_getElem? (i := 43) (by decide +kernel), List.mem_of_getElem? (i := 486) (by decide +kernel), List.mem_of_getElem? (i := 487) (by decide +kernel)⟩
theorem lw_p19 : lw_okq (⟨"WeightedTrees$Chart", "matchBody", "(LWeightedTrees$Grammar;III)V"⟩, 10) := ⟨⟨by decide +kernel, by decide +kernel⟩, List.mem_of_getElem? (i := 43) (by decide +kernel), List.mem_of_getElem? (i := 490) (by decide +kernel), List.mem_of_getElem? (i := 491) (by decide +kernel)⟩
theorem lw_p20 : lw_okq (⟨"WeightedTrees$Chart", "matchNonterminal", "(IIII)V"⟩, 10) := ⟨⟨by decide +kernel, by decide +kernel⟩, List.mem_of_getElem? (i := 43) (by decide +kernel), List.mem_of_getElem? (i := 496) (by decide +kernel), List.mem_of_getElem? (i := 497) (by decide +kernel)⟩
theorem lw_p21 : lw_okq (⟨"WeightedTrees$Chart", "matchTerminal", "(IIII)V"⟩, 10) := ⟨⟨by decide +kernel, by decide +kernel⟩, List.mem_of_getElem? (i := 43) (by decide +kernel), List.mem_of_getElem? (i := 500) (by decide +kernel), List.mem_of_getElem? (i := 501) (by decide +kernel)⟩
theorem lw_p22 : lw_okq (⟨"WeightedTrees$Chart", "keepBody", "(LWeightedTrees$Grammar;III)V"⟩, 10) := ⟨⟨by decide +kernel, by decide +kernel⟩, List.mem_of_getElem? (i := 43) (by decide +kernel), List.mem_of_getElem? (i := 504) (by decide +kernel), List.mem_of_getElem? (i := 505) (by decide +kernel)⟩
theorem lw_p23 : lw_okq (⟨"WeightedTrees$UnitTable", "addRule", "(LWeightedTrees$Grammar;LWeightedTrees$Chart;I)V"⟩, 1) := ⟨⟨by decide +kernel, by decide +kernel⟩, List.mem_of_getElem? (i := 91) (by decide +kernel), List.mem_of_getElem? (i := 512) (by decide +kernel), List.mem_of_getElem? (i := 513) (by decide +kernel)⟩
theorem lw_p24 : lw_okq (⟨"WeightedTrees", "requireNonterminal", "(I)V"⟩, 7) := ⟨⟨by decide +kernel, by decide +kernel⟩, List.mem_of_getElem? (i := 18) (by decide +kernel), List.mem_of_getElem? (i := 564) (by decide +kernel), List.mem_of_getElem? (i := 565) (by decide +kernel)⟩
theorem lw_p25 : lw_okq (⟨"WeightedTrees", "requirePart", "(II)V"⟩, 7) := ⟨⟨by decide +kernel, by decide +kernel⟩, List.mem_of_getElem? (i := 18) (by decide +kernel), List.mem_of_getElem? (i := 615) (by decide +kernel), List.mem_of_getElem? (i := 616) (by decide +kernel)⟩
theorem lw_p26 : lw_okq (⟨"WeightedTrees$TreeListing", "keepPlace", "(IIII)V"⟩, 5) := ⟨⟨by decide +kernel, by decide +kernel⟩, List.mem_of_getElem? (i := 101) (by decide +kernel), List.mem_of_getElem? (i := 641) (by decide +kernel), List.mem_of_getElem? (i := 642) (by decide +kernel)⟩
theorem lw_p27 : lw_okq (⟨"WeightedTrees$TreeListing", "expand", "(LWeightedTrees$Grammar;LWeightedTrees$Chart;I)V"⟩, 5) := ⟨⟨by decide +kernel, by decide +kernel⟩, List.mem_of_getElem? (i := 101) (by decide +kernel), List.mem_of_getElem? (i := 652) (by decide +kernel), List.mem_of_getElem? (i := 653) (by decide +kernel)⟩
theorem lw_p28 : lw_okq (⟨"WeightedTreesModel", "take", "(I)I"⟩, 35) := ⟨⟨by decide +kernel, by decide +kernel⟩, List.mem_of_getElem? (i := 671) (by decide +kernel), List.mem_of_getElem? (i := 800) (by decide +kernel), List.mem_of_getElem? (i := 801) (by decide +kernel)⟩
theorem lw_p29 : lw_okq (⟨"WeightedTreesModel", "readGrammar", "(I)I"⟩, 35) := ⟨⟨by decide +kernel, by decide +kernel⟩, List.mem_of_getElem? (i := 671) (by decide +kernel), List.mem_of_getElem? (i := 804) (by decide +kernel), List.mem_of_getElem? (i := 805) (by decide +kernel)⟩
theorem lw_p30 : lw_okq (⟨"WeightedTreesModel", "ruleLine", "()Z"⟩, 35) := ⟨⟨by decide +kernel, by decide +kernel⟩, List.mem_of_getElem? (i := 671) (by decide +kernel), List.mem_of_getElem? (i := 808) (by decide +kernel), List.mem_of_getElem? (i := 809) (by decide +kernel)⟩
theorem lw_p31 : lw_okq (⟨"WeightedTreesModel", "symbol", "(I)I"⟩, 35) := ⟨⟨by decide +kernel, by decide +kernel⟩, List.mem_of_getElem? (i := 671) (by decide +kernel), List.mem_of_getElem? (i := 815) (by decide +kernel), List.mem_of_getElem? (i := 816) (by decide +kernel)⟩
def lw_privs_2 : List (MethodName × Nat) := [(⟨"WeightedTrees$Grammar", "closeReached", "()V"⟩, 10), (⟨"WeightedTrees", "takeSpareGrammar", "()V"⟩, 7), (⟨"WeightedTrees$Chart", "addRule", "(LWeightedTrees$Grammar;III)V"⟩, 10), (⟨"WeightedTrees$Chart", "matchBody", "(LWeightedTrees$Grammar;III)V"⟩, 10), (⟨"WeightedTrees$Chart", "matchNonterminal", "(IIII)V"⟩, 10), (⟨"WeightedTrees$Chart", "matchTerminal", "(IIII)V"⟩, 10), (⟨"WeightedTrees$Chart", "keepBody", "(LWeightedTrees$Grammar;III)V"⟩, 10), (⟨"WeightedTrees$UnitTable", "addRule", "(LWeightedTrees$Grammar;LWeightedTrees$Chart;I)V"⟩, 1), (⟨"WeightedTrees", "requireNonterminal", "(I)V"⟩, 7), (⟨"WeightedTrees", "requirePart", "(II)V"⟩, 7), (⟨"WeightedTrees$TreeListing", "keepPlace", "(IIII)V"⟩, 5), (⟨"WeightedTrees$TreeListing", "expand", "(LWeightedTrees$Grammar;LWeightedTrees$Chart;I)V"⟩, 5), (⟨"WeightedTreesModel", "take", "(I)I"⟩, 35), (⟨"WeightedTreesModel", "readGrammar", "(I)I"⟩, 35), (⟨"WeightedTreesModel", "ruleLine", "()Z"⟩, 35), (⟨"WeightedTreesModel", "symbol", "(I)I"⟩, 35)]
theorem lw_r2 : ∀ q ∈ lw_privs_2, lw_okq q := List.forall_mem_cons.mpr ⟨lw_p16, List.forall_mem_cons.mpr ⟨lw_p17, List.forall_mem_cons.mpr ⟨lw_p18, List.forall_mem_cons.mpr ⟨lw_p19, List.forall_mem_cons.mpr ⟨lw_p20, List.forall_mem_cons.mpr ⟨lw_p21, List.forall_mem_cons.mpr ⟨lw_p22, List.forall_mem_cons.mpr ⟨lw_p23, List.forall_mem_cons.mpr ⟨lw_p24, List.forall_mem_cons.mpr ⟨lw_p25, List.forall_mem_cons.mpr ⟨lw_p26, List.forall_mem_cons.mpr ⟨lw_p27, List.forall_mem_cons.mpr ⟨lw_p28, List.forall_mem_cons.mpr ⟨lw_p29, List.forall_mem_cons.mpr ⟨lw_p30, List.forall_mem_cons.mpr ⟨lw_p31, fun _ h => absurd h List.not_mem_nil⟩⟩⟩⟩⟩⟩⟩⟩⟩⟩⟩⟩⟩⟩⟩⟩
theorem lw_p32 : lw_okq (⟨"WeightedTreesModel", "next", "(I)Z"⟩, 35) := ⟨⟨by decide +kernel, by decide +kernel⟩, List.mem_of_getElem? (i := 671) (by decide +kernel), List.mem_of_getElem? (i := 819) (by decide +kernel), List.mem_of_getElem? (i := 820) (by decide +kernel)⟩
theorem lw_p33 : lw_okq (⟨"WeightedTreesModel", "body", "(I)Z"⟩, 35) := ⟨⟨by decide +kernel, by decide +kernel⟩, List.mem_of_getElem? (i := 671) (by decide +kernel), List.mem_of_getElem? (i := 823) (by decide +kernel), List.mem_of_getElem? (i := 824) (by decide +kernel)⟩
theorem lw_p34 : lw_okq (⟨"WeightedTreesModel", "number", "()Z"⟩, 35) := ⟨⟨by decide +kernel, by decide +kernel⟩, List.mem_of_getElem? (i := 671) (by decide +kernel), List.mem_of_getElem? (i := 830) (by decide +kernel), List.mem_of_getElem? (i := 831) (by decide +kernel)⟩
theorem lw_p35 : lw_okq (⟨"WeightedTreesModel", "isFigure", "()Z"⟩, 35) := ⟨⟨by decide +kernel, by decide +kernel⟩, List.mem_of_getElem? (i := 671) (by decide +kernel), List.mem_of_getElem? (i := 834) (by decide +kernel), List.mem_of_getElem? (i := 835) (by decide +kernel)⟩
theorem lw_p36 : lw_okq (⟨"WeightedTreesModel", "loops", "()Z"⟩, 35) := ⟨⟨by decide +kernel, by decide +kernel⟩, List.mem_of_getElem? (i := 671) (by decide +kernel), List.mem_of_getElem? (i := 842) (by decide +kernel), List.mem_of_getElem? (i := 843) (by decide +kernel)⟩
theorem lw_p37 : lw_okq (⟨"WeightedTreesModel", "findEmptyable", "()V"⟩, 35) := ⟨⟨by decide +kernel, by decide +kernel⟩, List.mem_of_getElem? (i := 671) (by decide +kernel), List.mem_of_getElem? (i := 846) (by decide +kernel), List.mem_of_getElem? (i := 847) (by decide +kernel)⟩
theorem lw_p38 : lw_okq (⟨"WeightedTreesModel", "emptyBodyCost", "(II)I"⟩, 35) := ⟨⟨by decide +kernel, by decide +kernel⟩, List.mem_of_getElem? (i := 671) (by decide +kernel), List.mem_of_getElem? (i := 850) (by decide +kernel), List.mem_of_getElem? (i := 851) (by decide +kernel)⟩
theorem lw_p39 : lw_okq (⟨"WeightedTreesModel", "isLetter", "(I)Z"⟩, 35) := ⟨⟨by decide +kernel, by decide +kernel⟩, List.mem_of_getElem? (i := 671) (by decide +kernel), List.mem_of_getElem? (i := 854) (by decide +kernel), List.mem_of_getElem? (i := 855) (by decide +kernel)⟩
theorem lw_p40 : lw_okq (⟨"WeightedTreesModel", "fillEmpty", "()V"⟩, 35) := ⟨⟨by decide +kernel, by decide +kernel⟩, List.mem_of_getElem? (i := 671) (by decide +kernel), List.mem_of_getElem? (i := 859) (by decide +kernel), List.mem_of_getElem? (i := 860) (by decide +kernel)⟩
theorem lw_p41 : lw_okq (⟨"WeightedTreesModel", "emptyBody", "(II)J"⟩, 35) := ⟨⟨by decide +kernel, by decide +kernel⟩, List.mem_of_getElem? (i := 671) (by decide +kernel), List.mem_of_getElem? (i := 863) (by decide +kernel), List.mem_of_getElem? (i := 864) (by decide +kernel)⟩
theorem lw_p42 : lw_okq (⟨"WeightedTreesModel", "fillUnits", "()V"⟩, 35) := ⟨⟨by decide +kernel, by decide +kernel⟩, List.mem_of_getElem? (i := 671) (by decide +kernel), List.mem_of_getElem? (i := 867) (by decide +kernel), List.mem_of_getElem? (i := 868) (by decide +kernel)⟩
theorem lw_p43 : lw_okq (⟨"WeightedTreesModel", "fillPart", "(II)V"⟩, 35) := ⟨⟨by decide +kernel, by decide +kernel⟩, List.mem_of_getElem? (i := 671) (by decide +kernel), List.mem_of_getElem? (i := 879) (by decide +kernel), List.mem_of_getElem? (i := 880) (by decide +kernel)⟩
theorem lw_p44 : lw_okq (⟨"WeightedTreesModel", "bodySum", "(III)J"⟩, 35) := ⟨⟨by decide +kernel, by decide +kernel⟩, List.mem_of_getElem? (i := 671) (by decide +kernel), List.mem_of_getElem? (i := 886) (by decide +kernel), List.mem_of_getElem? (i := 887) (by decide +kernel)⟩
theorem lw_p45 : lw_okq (⟨"WeightedTreesModel", "sumOf", "(III)J"⟩, 35) := ⟨⟨by decide +kernel, by decide +kernel⟩, List.mem_of_getElem? (i := 671) (by decide +kernel), List.mem_of_getElem? (i := 890) (by decide +kernel), List.mem_of_getElem? (i := 891) (by decide +kernel)⟩
theorem lw_p46 : lw_okq (⟨"WeightedTreesModel", "bodyCost", "(III)I"⟩, 35) := ⟨⟨by decide +kernel, by decide +kernel⟩, List.mem_of_getElem? (i := 671) (by decide +kernel), List.mem_of_getElem? (i := 894) (by decide +kernel), List.mem_of_getElem? (i := 895) (by decide +kernel)⟩
theorem lw_p47 : lw_okq (⟨"WeightedTreesModel", "costOf", "(III)I"⟩, 35) := ⟨⟨by decide +kernel, by decide +kernel⟩, List.mem_of_getElem? (i := 671) (by decide +kernel), List.mem_of_getElem? (i := 898) (by decide +kernel), List.mem_of_getElem? (i := 899) (by decide +kernel)⟩
def lw_privs_3 : List (MethodName × Nat) := [(⟨"WeightedTreesModel", "next", "(I)Z"⟩, 35), (⟨"WeightedTreesModel", "body", "(I)Z"⟩, 35), (⟨"WeightedTreesModel", "number", "()Z"⟩, 35), (⟨"WeightedTreesModel", "isFigure", "()Z"⟩, 35), (⟨"WeightedTreesModel", "loops", "()Z"⟩, 35), (⟨"WeightedTreesModel", "findEmptyable", "()V"⟩, 35), (⟨"WeightedTreesModel", "emptyBodyCost", "(II)I"⟩, 35), (⟨"WeightedTreesModel", "isLetter", "(I)Z"⟩, 35), (⟨"WeightedTreesModel", "fillEmpty", "()V"⟩, 35), (⟨"WeightedTreesModel", "emptyBody", "(II)J"⟩, 35), (⟨"WeightedTreesModel", "fillUnits", "()V"⟩, 35), (⟨"WeightedTreesModel", "fillPart", "(II)V"⟩, 35), (⟨"WeightedTreesModel", "bodySum", "(III)J"⟩, 35), (⟨"WeightedTreesModel", "sumOf", "(III)J"⟩, 35), (⟨"WeightedTreesModel", "bodyCost", "(III)I"⟩, 35), (⟨"WeightedTreesModel", "costOf", "(III)I"⟩, 35)]
theorem lw_r3 : ∀ q ∈ lw_privs_3, lw_okq q := List.forall_mem_cons.mpr ⟨lw_p32, List.forall_mem_cons.mpr ⟨lw_p33, List.forall_mem_cons.mpr ⟨lw_p34, List.forall_mem_cons.mpr ⟨lw_p35, List.forall_mem_cons.mpr ⟨lw_p36, List.forall_mem_cons.mpr ⟨lw_p37, List.forall_mem_cons.mpr ⟨lw_p38, List.forall_mem_cons.mpr ⟨lw_p39, List.forall_mem_cons.mpr ⟨lw_p40, List.forall_mem_cons.mpr ⟨lw_p41, List.forall_mem_cons.mpr ⟨lw_p42, List.forall_mem_cons.mpr ⟨lw_p43, List.forall_mem_cons.mpr ⟨lw_p44, List.forall_mem_cons.mpr ⟨lw_p45, List.forall_mem_cons.mpr ⟨lw_p46, List.forall_mem_cons.mpr ⟨lw_p47, fun _ h => absurd h List.not_mem_nil⟩⟩⟩⟩⟩⟩⟩⟩⟩⟩⟩⟩⟩⟩⟩⟩
theorem lw_p48 : lw_okq (⟨"WeightedTreesModel", "isSymbol", "(I)Z"⟩, 35) := ⟨⟨by decide +kernel, by decide +kernel⟩, List.mem_of_getElem? (i := 671) (by decide +kernel), List.mem_of_getElem? (i := 910) (by decide +kernel), List.mem_of_getElem? (i := 911) (by decide +kernel)⟩
theorem lw_p49 : lw_okq (⟨"WeightedTreesModel", "refusal", "(III)I"⟩, 35) := ⟨⟨by decide +kernel, by decide +kernel⟩, List.mem_of_getElem? (i := 671) (by decide +kernel), List.mem_of_getElem? (i := 930) (by decide +kernel), List.mem_of_getElem? (i := 931) (by decide +kernel)⟩
theorem lw_p50 : lw_okq (⟨"WeightedTreesModel", "unroll", "(III)V"⟩, 35) := ⟨⟨by decide +kernel, by decide +kernel⟩, List.mem_of_getElem? (i := 671) (by decide +kernel), List.mem_of_getElem? (i := 942) (by decide +kernel), List.mem_of_getElem? (i := 943) (by decide +kernel)⟩
theorem lw_p51 : lw_okq (⟨"WeightedTreesModel", "defer", "(IIII)I"⟩, 35) := ⟨⟨by decide +kernel, by decide +kernel⟩, List.mem_of_getElem? (i := 671) (by decide +kernel), List.mem_of_getElem? (i := 946) (by decide +kernel), List.mem_of_getElem? (i := 947) (by decide +kernel)⟩
theorem lw_p52 : lw_okq (⟨"WeightedTreesModel", "ruleFor", "(III)I"⟩, 35) := ⟨⟨by decide +kernel, by decide +kernel⟩, List.mem_of_getElem? (i := 671) (by decide +kernel), List.mem_of_getElem? (i := 950) (by decide +kernel), List.mem_of_getElem? (i := 951) (by decide +kernel)⟩
theorem lw_p53 : lw_okq (⟨"WeightedTreesModel", "turnOver", "(II)V"⟩, 35) := ⟨⟨by decide +kernel, by decide +kernel⟩, List.mem_of_getElem? (i := 671) (by decide +kernel), List.mem_of_getElem? (i := 954) (by decide +kernel), List.mem_of_getElem? (i := 955) (by decide +kernel)⟩
def lw_privs_4 : List (MethodName × Nat) := [(⟨"WeightedTreesModel", "isSymbol", "(I)Z"⟩, 35), (⟨"WeightedTreesModel", "refusal", "(III)I"⟩, 35), (⟨"WeightedTreesModel", "unroll", "(III)V"⟩, 35), (⟨"WeightedTreesModel", "defer", "(IIII)I"⟩, 35), (⟨"WeightedTreesModel", "ruleFor", "(III)I"⟩, 35), (⟨"WeightedTreesModel", "turnOver", "(II)V"⟩, 35)]
theorem lw_r4 : ∀ q ∈ lw_privs_4, lw_okq q := List.forall_mem_cons.mpr ⟨lw_p48, List.forall_mem_cons.mpr ⟨lw_p49, List.forall_mem_cons.mpr ⟨lw_p50, List.forall_mem_cons.mpr ⟨lw_p51, List.forall_mem_cons.mpr ⟨lw_p52, List.forall_mem_cons.mpr ⟨lw_p53, fun _ h => absurd h List.not_mem_nil⟩⟩⟩⟩⟩⟩
def lw_privs : List (MethodName × Nat) := lw_privs_1 ++ (lw_privs_2 ++ (lw_privs_3 ++ (lw_privs_4)))
def lw_tbl : List Cond := k2_sels lw_privs ++ tables_1
theorem lw_privs_ok : ∀ q ∈ lw_privs, lw_okq q := by
  show ∀ q ∈ lw_privs_1 ++ (lw_privs_2 ++ (lw_privs_3 ++ (lw_privs_4))), lw_okq q
  exact List.forall_mem_append.mpr ⟨lw_r1, List.forall_mem_append.mpr ⟨lw_r2, List.forall_mem_append.mpr ⟨lw_r3, lw_r4⟩⟩⟩
-- ===== end of PART A; then your names; then what follows =====
end
section
/-! Classes, fields, methods, codes: written by program out of the Statement and the listing. -/
def R_Wt : String := "WeightedTrees"
def T_Wt : u_T := fun k => match k with
  | 0 => ("WeightedTrees", "draft", "LWeightedTrees$Draft;", true)
  | 1 => ("WeightedTrees", "chart", "LWeightedTrees$Chart;", true)
  | 2 => ("WeightedTrees", "units", "LWeightedTrees$UnitTable;", true)
  | 3 => ("WeightedTrees", "tree", "LWeightedTrees$TreeListing;", true)
  | 4 => ("WeightedTrees", "grammar", "LWeightedTrees$Grammar;", false)
  | 5 => ("WeightedTrees", "spare", "LWeightedTrees$Grammar;", false)
  | _ => ("WeightedTrees", "wrongLine", "I", false)
def ty_Wt : Nat → FieldType := fun k => match k with
  | 0 => .object "WeightedTrees$Draft"
  | 1 => .object "WeightedTrees$Chart"
  | 2 => .object "WeightedTrees$UnitTable"
  | 3 => .object "WeightedTrees$TreeListing"
  | 4 => .object "WeightedTrees$Grammar"
  | 5 => .object "WeightedTrees$Grammar"
  | _ => .int
def R_Dr : String := "WeightedTrees$Draft"
def T_Dr : u_T := fun k => match k with
  | 0 => ("WeightedTrees$Draft", "characters", "[C", true)
  | _ => ("WeightedTrees$Draft", "length", "I", false)
def ty_Dr : Nat → FieldType := fun k => match k with
  | 0 => .array .char
  | _ => .int
def R_Ch : String := "WeightedTrees$Chart"
def T_Ch : u_T := fun k => match k with
  | 0 => ("WeightedTrees$Chart", "sums", "[J", true)
  | 1 => ("WeightedTrees$Chart", "costs", "[I", true)
  | 2 => ("WeightedTrees$Chart", "rules", "[I", true)
  | 3 => ("WeightedTrees$Chart", "sizes", "[I", true)
  | 4 => ("WeightedTrees$Chart", "lengths", "[I", true)
  | 5 => ("WeightedTrees$Chart", "letters", "[C", true)
  | 6 => ("WeightedTrees$Chart", "textLength", "I", false)
  | 7 => ("WeightedTrees$Chart", "restSums", "[[J", true)
  | 8 => ("WeightedTrees$Chart", "restCosts", "[[I", true)
  | _ => ("WeightedTrees$Chart", "restLengths", "[[I", true)
def ty_Ch : Nat → FieldType := fun k => match k with
  | 0 => .array .long
  | 1 => .array .int
  | 2 => .array .int
  | 3 => .array .int
  | 4 => .array .int
  | 5 => .array .char
  | 6 => .int
  | 7 => .array (.array .long)
  | 8 => .array (.array .int)
  | _ => .array (.array .int)
def R_Ut : String := "WeightedTrees$UnitTable"
def T_Ut : u_T := fun k => match k with
  | _ => ("WeightedTrees$UnitTable", "table", "[J", true)
def ty_Ut : Nat → FieldType := fun k => match k with
  | _ => .array .long
def R_Tl : String := "WeightedTrees$TreeListing"
def T_Tl : u_T := fun k => match k with
  | 0 => ("WeightedTrees$TreeListing", "rules", "[I", true)
  | 1 => ("WeightedTrees$TreeListing", "starts", "[I", true)
  | 2 => ("WeightedTrees$TreeListing", "ends", "[I", true)
  | 3 => ("WeightedTrees$TreeListing", "symbols", "[I", true)
  | _ => ("WeightedTrees$TreeListing", "nodeCount", "I", false)
def ty_Tl : Nat → FieldType := fun k => match k with
  | 0 => .array .int
  | 1 => .array .int
  | 2 => .array .int
  | 3 => .array .int
  | _ => .int
def R_Gr : String := "WeightedTrees$Grammar"
def T_Gr : u_T := fun k => match k with
  | 0 => ("WeightedTrees$Grammar", "heads", "[I", true)
  | 1 => ("WeightedTrees$Grammar", "bodies", "[I", true)
  | 2 => ("WeightedTrees$Grammar", "bodyLengths", "[I", true)
  | 3 => ("WeightedTrees$Grammar", "weights", "[J", true)
  | 4 => ("WeightedTrees$Grammar", "costs", "[I", true)
  | 5 => ("WeightedTrees$Grammar", "capitals", "[I", true)
  | 6 => ("WeightedTrees$Grammar", "order", "[I", true)
  | 7 => ("WeightedTrees$Grammar", "ruleCount", "I", false)
  | 8 => ("WeightedTrees$Grammar", "nonterminalCount", "I", false)
  | _ => ("WeightedTrees$Grammar", "reached", "[I", true)
def ty_Gr : Nat → FieldType := fun k => match k with
  | 0 => .array .int
  | 1 => .array .int
  | 2 => .array .int
  | 3 => .array .long
  | 4 => .array .int
  | 5 => .array .int
  | 6 => .array .int
  | 7 => .int
  | 8 => .int
  | _ => .array .int
def R_Rd : String := "WeightedTrees$GrammarReader"
def T_Rd : u_T := fun k => match k with
  | 0 => ("WeightedTrees$GrammarReader", "source", "LWeightedTrees$Draft;", true)
  | 1 => ("WeightedTrees$GrammarReader", "target", "LWeightedTrees$Grammar;", true)
  | 2 => ("WeightedTrees$GrammarReader", "at", "I", false)
  | _ => ("WeightedTrees$GrammarReader", "end", "I", false)
def ty_Rd : Nat → FieldType := fun k => match k with
  | 0 => .object "WeightedTrees$Draft"
  | 1 => .object "WeightedTrees$Grammar"
  | 2 => .int
  | _ => .int
def R_Md : String := "WeightedTreesModel"
def T_Md : u_T := fun k => match k with
  | 0 => ("WeightedTreesModel", "code", "I", false)
  | 1 => ("WeightedTreesModel", "draft", "[I", true)
  | 2 => ("WeightedTreesModel", "size", "I", false)
  | 3 => ("WeightedTreesModel", "src", "[I", true)
  | 4 => ("WeightedTreesModel", "kept", "[I", true)
  | 5 => ("WeightedTreesModel", "keptSize", "I", false)
  | 6 => ("WeightedTreesModel", "loaded", "Z", false)
  | 7 => ("WeightedTreesModel", "wrongLine", "I", false)
  | 8 => ("WeightedTreesModel", "rules", "I", false)
  | 9 => ("WeightedTreesModel", "heads", "[I", true)
  | 10 => ("WeightedTreesModel", "lengths", "[I", true)
  | 11 => ("WeightedTreesModel", "bodies", "[I", true)
  | 12 => ("WeightedTreesModel", "weights", "[J", true)
  | 13 => ("WeightedTreesModel", "costs", "[I", true)
  | 14 => ("WeightedTreesModel", "symbols", "I", false)
  | 15 => ("WeightedTreesModel", "names", "[I", true)
  | 16 => ("WeightedTreesModel", "hasText", "Z", false)
  | 17 => ("WeightedTreesModel", "letters", "I", false)
  | 18 => ("WeightedTreesModel", "text", "[I", true)
  | 19 => ("WeightedTreesModel", "emptySum", "[J", true)
  | 20 => ("WeightedTreesModel", "emptyCost", "[I", true)
  | 21 => ("WeightedTreesModel", "sums", "[J", true)
  | 22 => ("WeightedTreesModel", "least", "[I", true)
  | 23 => ("WeightedTreesModel", "units", "[J", true)
  | 24 => ("WeightedTreesModel", "upTo", "[J", true)
  | 25 => ("WeightedTreesModel", "upToNext", "[J", true)
  | 26 => ("WeightedTreesModel", "rest", "[I", true)
  | 27 => ("WeightedTreesModel", "nodes", "I", false)
  | 28 => ("WeightedTreesModel", "nodeRule", "[I", true)
  | 29 => ("WeightedTreesModel", "nodeFrom", "[I", true)
  | 30 => ("WeightedTreesModel", "nodeTo", "[I", true)
  | 31 => ("WeightedTreesModel", "waits", "[I", true)
  | 32 => ("WeightedTreesModel", "at", "I", false)
  | 33 => ("WeightedTreesModel", "end", "I", false)
  | _ => ("WeightedTreesModel", "value", "I", false)
def ty_Md : Nat → FieldType := fun k => match k with
  | 0 => .int
  | 1 => .array .int
  | 2 => .int
  | 3 => .array .int
  | 4 => .array .int
  | 5 => .int
  | 6 => .boolean
  | 7 => .int
  | 8 => .int
  | 9 => .array .int
  | 10 => .array .int
  | 11 => .array .int
  | 12 => .array .long
  | 13 => .array .int
  | 14 => .int
  | 15 => .array .int
  | 16 => .boolean
  | 17 => .int
  | 18 => .array .int
  | 19 => .array .long
  | 20 => .array .int
  | 21 => .array .long
  | 22 => .array .int
  | 23 => .array .long
  | 24 => .array .long
  | 25 => .array .long
  | 26 => .array .int
  | 27 => .int
  | 28 => .array .int
  | 29 => .array .int
  | 30 => .array .int
  | 31 => .array .int
  | 32 => .int
  | 33 => .int
  | _ => .int
abbrev rn_cl : List vw_C := [("WeightedTrees", T_Wt, 7), ("WeightedTrees$Draft", T_Dr, 2), ("WeightedTrees$Chart", T_Ch, 10), ("WeightedTrees$UnitTable", T_Ut, 1), ("WeightedTrees$TreeListing", T_Tl, 5), ("WeightedTrees$Grammar", T_Gr, 10), ("WeightedTrees$GrammarReader", T_Rd, 4), ("WeightedTreesModel", T_Md, 35)]
def rn_wk : Cond → Bool
  | .fieldLinkNest .. => true
  | .methodLinkNest .. => true
  | .castable .. => true
  | .declares _ => true
  | .arrayOver (.array _) => true
  | w => goodWord w
def rn_tb : List Cond := lw_tbl.filter rn_wk
theorem rn_in (i : Nat) {w : Cond} (h : tables_1[i]? = some w) (hk : rn_wk w = true) : w ∈ rn_tb := List.mem_filter.mpr ⟨List.mem_append_right _ (List.mem_of_getElem? h), hk⟩
theorem rn_inS (i : Nat) {w : Cond} (h : (k2_sels lw_privs)[i]? = some w) (hk : rn_wk w = true) : w ∈ rn_tb := List.mem_filter.mpr ⟨List.mem_append_left _ (List.mem_of_getElem? h), hk⟩
theorem rn_over {t : FieldType} {args a' : Array Value} {u U : State} (hal : u.vm.Alike U.vm) (h : (Cond.arrayOver (.array t)).before args u = true) : (Cond.arrayOver (.array t)).before a' U = true := by
  simp only [Cond.before, Cond.holds, Cond.value] at h ⊢
  rw [hal.findClass]
  cases hf : u.vm.findClass (FieldType.array t).toString with
  | none => rw [hf] at h; simp at h
  | some comp =>
    rw [hf] at h
    simp only [Option.bind_some] at h ⊢
    rw [hal.findIdx_congr _ (fun _ _ _ _ => rfl)]
    generalize hF : (u.vm.classes.findIdx? fun (x : Class) => match x.kind with | .array component _ => component == comp | _ => false) = fi at h ⊢
    cases fi with
    | none => simp at h
    | some c =>
      simp only [Option.bind_some] at h ⊢
      cases hk : u.vm.classes[c]? with
      | none => rw [hk] at h; simp at h
      | some k =>
        obtain ⟨k', hk', ek⟩ := hal.2.2 _ _ hk
        rw [hk] at h
        rw [hk', hal.findClass]
        have ekind : k'.kind = k.kind := by rw [ek]
        simp only [Option.map_some] at h ⊢
        rw [ekind]
        exact h
theorem rn_warm {w : Cond} {args a' : Array Value} {s U : State} (hk : rn_wk w = true) (h : w.before args s = true) (hW : s.WarmedH U.vm) : w.before a' U = true := by
  unfold rn_wk at hk
  split at hk
  · exact va_Nw.use rfl (va_Nw.warmF hW (va_Nw.of rfl h))
  · exact va_Nw.use rfl (va_Nw.warmM hW (va_Nw.of rfl h))
  · exact va_Nw.use rfl (va_Nw.warmC hW (va_Nw.of rfl h))
  · exact va_Nw.use rfl (va_Nw.warmD hW (va_Nw.of rfl h))
  · exact rn_over hW.alike h
  · exact word_at hW (good_of_word hk) h
def rn_zs : List (String × String × String) := [("java/lang/Throwable", "UNASSIGNED_STACK", "[Ljava/lang/StackTraceElement;"), ("java/lang/Throwable", "SUPPRESSED_SENTINEL", "Ljava/util/List;")]
def rn_strs : List (String × Nat × String) := [("WeightedTrees", 69, "the grammar is wrong"), ("WeightedTrees", 80, "the grammar loops"), ("WeightedTrees", 99, "the draft is no text"), ("WeightedTrees", 101, "there is no grammar"), ("WeightedTrees", 191, "there is no such nonterminal"), ("WeightedTrees", 128, "there is no such rule"), ("WeightedTrees", 193, "there is no such part of a text"), ("WeightedTrees", 157, "there is no tree"), ("WeightedTrees", 169, "there is no such node")]
end
section
/-! Methods: name, code, locals, return type, room; what each instruction is. -/
theorem rn_dc {code : ByteArray} {l : List (Nat × Instr × Nat)} (h : ∀ e ∈ l, decode code e.1 = .ok e.2) (k : Nat) {pc : Nat} {i : Instr} {n : Nat} (hk : l[k]? = some (pc, i, n)) : decode code pc = .ok (i, n) := h (pc, i, n) (List.mem_of_getElem? hk)
abbrev M_Wt_init : MethodName × ByteArray × Nat × Option FieldType × Nat × Nat := (⟨"WeightedTrees", "<init>", "()V"⟩, prog_1_method_1_code, 1, none, 2, 44)
abbrev M_Wt_put : MethodName × ByteArray × Nat × Option FieldType × Nat × Nat := (⟨"WeightedTrees", "put", "(IJ)Z"⟩, prog_1_method_2_code, 4, (some .boolean), 2, 46)
abbrev M_Wt_scrap : MethodName × ByteArray × Nat × Option FieldType × Nat × Nat := (⟨"WeightedTrees", "scrap", "()V"⟩, prog_1_method_3_code, 1, none, 1, 20)
abbrev M_Wt_load : MethodName × ByteArray × Nat × Option FieldType × Nat × Nat := (⟨"WeightedTrees", "load", "()I"⟩, prog_1_method_4_code, 2, (some .int), 6, 154)
abbrev M_Wt_wrong : MethodName × ByteArray × Nat × Option FieldType × Nat × Nat := (⟨"WeightedTrees", "wrong", "()I"⟩, prog_1_method_5_code, 1, (some .int), 0, 0)
abbrev M_Wt_parse : MethodName × ByteArray × Nat × Option FieldType × Nat × Nat := (⟨"WeightedTrees", "parse", "()Z"⟩, prog_1_method_6_code, 3, (some .boolean), 6, 156)
abbrev M_Wt_count : MethodName × ByteArray × Nat × Option FieldType × Nat × Nat := (⟨"WeightedTrees", "count", "(I)I"⟩, prog_1_method_7_code, 2, (some .int), 1, 20)
abbrev M_Wt_name : MethodName × ByteArray × Nat × Option FieldType × Nat × Nat := (⟨"WeightedTrees", "name", "(I)I"⟩, prog_1_method_8_code, 2, (some .int), 7, 121)
abbrev M_Wt_weight : MethodName × ByteArray × Nat × Option FieldType × Nat × Nat := (⟨"WeightedTrees", "weight", "(I)J"⟩, prog_1_method_9_code, 2, (some .long), 6, 100)
abbrev M_Wt_empty : MethodName × ByteArray × Nat × Option FieldType × Nat × Nat := (⟨"WeightedTrees", "empty", "(I)J"⟩, prog_1_method_10_code, 2, (some .long), 7, 121)
abbrev M_Wt_unit : MethodName × ByteArray × Nat × Option FieldType × Nat × Nat := (⟨"WeightedTrees", "unit", "(II)J"⟩, prog_1_method_11_code, 3, (some .long), 7, 121)
abbrev M_Wt_inside : MethodName × ByteArray × Nat × Option FieldType × Nat × Nat := (⟨"WeightedTrees", "inside", "(III)J"⟩, prog_1_method_12_code, 4, (some .long), 7, 122)
abbrev M_Wt_cheapest : MethodName × ByteArray × Nat × Option FieldType × Nat × Nat := (⟨"WeightedTrees", "cheapest", "(III)I"⟩, prog_1_method_13_code, 4, (some .int), 7, 122)
abbrev M_Wt_build : MethodName × ByteArray × Nat × Option FieldType × Nat × Nat := (⟨"WeightedTrees", "build", "(III)I"⟩, prog_1_method_14_code, 4, (some .int), 7, 122)
abbrev M_Wt_node : MethodName × ByteArray × Nat × Option FieldType × Nat × Nat := (⟨"WeightedTrees", "node", "(II)I"⟩, prog_1_method_15_code, 3, (some .int), 6, 100)
abbrev M_Wt_hasGrammar : MethodName × ByteArray × Nat × Option FieldType × Nat × Nat := (⟨"WeightedTrees", "hasGrammar", "()Z"⟩, prog_1_method_16_code, 1, (some .boolean), 0, 0)
abbrev M_Wt_takeSpareGrammar : MethodName × ByteArray × Nat × Option FieldType × Nat × Nat := (⟨"WeightedTrees", "takeSpareGrammar", "()V"⟩, prog_1_method_17_code, 2, none, 5, 133)
abbrev M_Wt_requireNonterminal : MethodName × ByteArray × Nat × Option FieldType × Nat × Nat := (⟨"WeightedTrees", "requireNonterminal", "(I)V"⟩, prog_1_method_18_code, 2, none, 6, 100)
abbrev M_Wt_requirePart : MethodName × ByteArray × Nat × Option FieldType × Nat × Nat := (⟨"WeightedTrees", "requirePart", "(II)V"⟩, prog_1_method_19_code, 3, none, 6, 100)
abbrev M_Wt_isCapital : MethodName × ByteArray × Nat × Option FieldType × Nat × Nat := (⟨"WeightedTrees", "isCapital", "(I)Z"⟩, prog_1_method_20_code, 1, (some .boolean), 0, 0)
abbrev M_Wt_isSmallLetter : MethodName × ByteArray × Nat × Option FieldType × Nat × Nat := (⟨"WeightedTrees", "isSmallLetter", "(I)Z"⟩, prog_1_method_21_code, 1, (some .boolean), 0, 0)
abbrev M_Dr_init : MethodName × ByteArray × Nat × Option FieldType × Nat × Nat := (⟨"WeightedTrees$Draft", "<init>", "()V"⟩, prog_3_method_1_code, 1, none, 1, 24)
abbrev M_Dr_clear : MethodName × ByteArray × Nat × Option FieldType × Nat × Nat := (⟨"WeightedTrees$Draft", "clear", "()V"⟩, prog_3_method_2_code, 1, none, 0, 0)
abbrev M_Dr_append : MethodName × ByteArray × Nat × Option FieldType × Nat × Nat := (⟨"WeightedTrees$Draft", "append", "(IJ)Z"⟩, prog_3_method_3_code, 5, (some .boolean), 1, 22)
abbrev M_Dr_isText : MethodName × ByteArray × Nat × Option FieldType × Nat × Nat := (⟨"WeightedTrees$Draft", "isText", "()Z"⟩, prog_3_method_4_code, 2, (some .boolean), 1, 20)
abbrev M_Dr_lineCount : MethodName × ByteArray × Nat × Option FieldType × Nat × Nat := (⟨"WeightedTrees$Draft", "lineCount", "()I"⟩, prog_3_method_5_code, 3, (some .int), 0, 0)
abbrev M_Dr_lineEnd : MethodName × ByteArray × Nat × Option FieldType × Nat × Nat := (⟨"WeightedTrees$Draft", "lineEnd", "(I)I"⟩, prog_3_method_6_code, 3, (some .int), 0, 0)
abbrev M_Dr_codeAt : MethodName × ByteArray × Nat × Option FieldType × Nat × Nat := (⟨"WeightedTrees$Draft", "codeAt", "(JI)I"⟩, prog_3_method_7_code, 3, (some .int), 0, 0)
abbrev M_Dr_isAllowed : MethodName × ByteArray × Nat × Option FieldType × Nat × Nat := (⟨"WeightedTrees$Draft", "isAllowed", "(I)Z"⟩, prog_3_method_8_code, 1, (some .boolean), 0, 0)
abbrev M_Ch_init : MethodName × ByteArray × Nat × Option FieldType × Nat × Nat := (⟨"WeightedTrees$Chart", "<init>", "()V"⟩, prog_2_method_1_code, 1, none, 1, 24)
abbrev M_Ch_cell : MethodName × ByteArray × Nat × Option FieldType × Nat × Nat := (⟨"WeightedTrees$Chart", "cell", "(III)I"⟩, prog_2_method_2_code, 4, (some .int), 0, 0)
abbrev M_Ch_hasTree : MethodName × ByteArray × Nat × Option FieldType × Nat × Nat := (⟨"WeightedTrees$Chart", "hasTree", "(III)Z"⟩, prog_2_method_3_code, 4, (some .boolean), 1, 23)
abbrev M_Ch_emptySum : MethodName × ByteArray × Nat × Option FieldType × Nat × Nat := (⟨"WeightedTrees$Chart", "emptySum", "(I)J"⟩, prog_2_method_4_code, 2, (some .long), 1, 23)
abbrev M_Ch_lengthOf : MethodName × ByteArray × Nat × Option FieldType × Nat × Nat := (⟨"WeightedTrees$Chart", "lengthOf", "(II)I"⟩, prog_2_method_5_code, 3, (some .int), 0, 0)
abbrev M_Ch_dropText : MethodName × ByteArray × Nat × Option FieldType × Nat × Nat := (⟨"WeightedTrees$Chart", "dropText", "()V"⟩, prog_2_method_6_code, 1, none, 0, 0)
abbrev M_Ch_takeText : MethodName × ByteArray × Nat × Option FieldType × Nat × Nat := (⟨"WeightedTrees$Chart", "takeText", "(LWeightedTrees$Draft;)V"⟩, prog_2_method_7_code, 3, none, 0, 0)
abbrev M_Ch_fillText : MethodName × ByteArray × Nat × Option FieldType × Nat × Nat := (⟨"WeightedTrees$Chart", "fillText", "(LWeightedTrees$Grammar;)V"⟩, prog_2_method_8_code, 4, none, 5, 133)
abbrev M_Ch_fillPart : MethodName × ByteArray × Nat × Option FieldType × Nat × Nat := (⟨"WeightedTrees$Chart", "fillPart", "(LWeightedTrees$Grammar;II)V"⟩, prog_2_method_9_code, 6, none, 4, 108)
abbrev M_Ch_addRule : MethodName × ByteArray × Nat × Option FieldType × Nat × Nat := (⟨"WeightedTrees$Chart", "addRule", "(LWeightedTrees$Grammar;III)V"⟩, prog_2_method_10_code, 7, none, 3, 82)
abbrev M_Ch_matchBody : MethodName × ByteArray × Nat × Option FieldType × Nat × Nat := (⟨"WeightedTrees$Chart", "matchBody", "(LWeightedTrees$Grammar;III)V"⟩, prog_2_method_11_code, 10, none, 2, 53)
abbrev M_Ch_matchTerminal : MethodName × ByteArray × Nat × Option FieldType × Nat × Nat := (⟨"WeightedTrees$Chart", "matchTerminal", "(IIII)V"⟩, prog_2_method_12_code, 6, none, 0, 0)
abbrev M_Ch_matchNonterminal : MethodName × ByteArray × Nat × Option FieldType × Nat × Nat := (⟨"WeightedTrees$Chart", "matchNonterminal", "(IIII)V"⟩, prog_2_method_13_code, 11, none, 1, 23)
abbrev M_Ch_keepBody : MethodName × ByteArray × Nat × Option FieldType × Nat × Nat := (⟨"WeightedTrees$Chart", "keepBody", "(LWeightedTrees$Grammar;III)V"⟩, prog_2_method_14_code, 11, none, 1, 23)
abbrev M_Ut_init : MethodName × ByteArray × Nat × Option FieldType × Nat × Nat := (⟨"WeightedTrees$UnitTable", "<init>", "()V"⟩, prog_7_method_1_code, 1, none, 1, 24)
abbrev M_Ut_sum : MethodName × ByteArray × Nat × Option FieldType × Nat × Nat := (⟨"WeightedTrees$UnitTable", "sum", "(II)J"⟩, prog_7_method_2_code, 3, (some .long), 0, 0)
abbrev M_Ut_fill : MethodName × ByteArray × Nat × Option FieldType × Nat × Nat := (⟨"WeightedTrees$UnitTable", "fill", "(LWeightedTrees$Grammar;LWeightedTrees$Chart;)V"⟩, prog_7_method_3_code, 6, none, 4, 100)
abbrev M_Ut_addRule : MethodName × ByteArray × Nat × Option FieldType × Nat × Nat := (⟨"WeightedTrees$UnitTable", "addRule", "(LWeightedTrees$Grammar;LWeightedTrees$Chart;I)V"⟩, prog_7_method_4_code, 10, none, 3, 71)
abbrev M_Ut_emptyProduct : MethodName × ByteArray × Nat × Option FieldType × Nat × Nat := (⟨"WeightedTrees$UnitTable", "emptyProduct", "(LWeightedTrees$Grammar;LWeightedTrees$Chart;II)J"⟩, prog_7_method_5_code, 8, (some .long), 2, 44)
abbrev M_Tl_init : MethodName × ByteArray × Nat × Option FieldType × Nat × Nat := (⟨"WeightedTrees$TreeListing", "<init>", "()V"⟩, prog_6_method_1_code, 1, none, 1, 24)
abbrev M_Tl_clear : MethodName × ByteArray × Nat × Option FieldType × Nat × Nat := (⟨"WeightedTrees$TreeListing", "clear", "()V"⟩, prog_6_method_2_code, 1, none, 0, 0)
abbrev M_Tl_shownCount : MethodName × ByteArray × Nat × Option FieldType × Nat × Nat := (⟨"WeightedTrees$TreeListing", "shownCount", "()I"⟩, prog_6_method_3_code, 1, (some .int), 1, 21)
abbrev M_Tl_list : MethodName × ByteArray × Nat × Option FieldType × Nat × Nat := (⟨"WeightedTrees$TreeListing", "list", "(LWeightedTrees$Grammar;LWeightedTrees$Chart;III)V"⟩, prog_6_method_4_code, 8, none, 2, 54)
abbrev M_Tl_keepPlace : MethodName × ByteArray × Nat × Option FieldType × Nat × Nat := (⟨"WeightedTrees$TreeListing", "keepPlace", "(IIII)V"⟩, prog_6_method_5_code, 5, none, 0, 0)
abbrev M_Tl_expand : MethodName × ByteArray × Nat × Option FieldType × Nat × Nat := (⟨"WeightedTrees$TreeListing", "expand", "(LWeightedTrees$Grammar;LWeightedTrees$Chart;I)V"⟩, prog_6_method_6_code, 11, none, 1, 24)
abbrev M_Gr_init : MethodName × ByteArray × Nat × Option FieldType × Nat × Nat := (⟨"WeightedTrees$Grammar", "<init>", "()V"⟩, prog_4_method_1_code, 1, none, 1, 24)
abbrev M_Gr_clear : MethodName × ByteArray × Nat × Option FieldType × Nat × Nat := (⟨"WeightedTrees$Grammar", "clear", "()V"⟩, prog_4_method_2_code, 1, none, 0, 0)
abbrev M_Gr_symbol : MethodName × ByteArray × Nat × Option FieldType × Nat × Nat := (⟨"WeightedTrees$Grammar", "symbol", "(II)I"⟩, prog_4_method_3_code, 3, (some .int), 0, 0)
abbrev M_Gr_isNonterminal : MethodName × ByteArray × Nat × Option FieldType × Nat × Nat := (⟨"WeightedTrees$Grammar", "isNonterminal", "(I)Z"⟩, prog_4_method_4_code, 1, (some .boolean), 0, 0)
abbrev M_Gr_nonterminalOf : MethodName × ByteArray × Nat × Option FieldType × Nat × Nat := (⟨"WeightedTrees$Grammar", "nonterminalOf", "(I)I"⟩, prog_4_method_5_code, 3, (some .int), 0, 0)
abbrev M_Gr_findOrder : MethodName × ByteArray × Nat × Option FieldType × Nat × Nat := (⟨"WeightedTrees$Grammar", "findOrder", "()Z"⟩, prog_4_method_6_code, 4, (some .boolean), 3, 71)
abbrev M_Gr_hasBit : MethodName × ByteArray × Nat × Option FieldType × Nat × Nat := (⟨"WeightedTrees$Grammar", "hasBit", "(II)Z"⟩, prog_4_method_7_code, 2, (some .boolean), 0, 0)
abbrev M_Gr_emptyable : MethodName × ByteArray × Nat × Option FieldType × Nat × Nat := (⟨"WeightedTrees$Grammar", "emptyable", "()I"⟩, prog_4_method_8_code, 4, (some .int), 2, 47)
abbrev M_Gr_vanishes : MethodName × ByteArray × Nat × Option FieldType × Nat × Nat := (⟨"WeightedTrees$Grammar", "vanishes", "(III)Z"⟩, prog_4_method_9_code, 6, (some .boolean), 1, 22)
abbrev M_Gr_findReached : MethodName × ByteArray × Nat × Option FieldType × Nat × Nat := (⟨"WeightedTrees$Grammar", "findReached", "(I)V"⟩, prog_4_method_10_code, 5, none, 2, 47)
abbrev M_Gr_closeReached : MethodName × ByteArray × Nat × Option FieldType × Nat × Nat := (⟨"WeightedTrees$Grammar", "closeReached", "()V"⟩, prog_4_method_11_code, 3, none, 1, 21)
abbrev M_Rd_init : MethodName × ByteArray × Nat × Option FieldType × Nat × Nat := (⟨"WeightedTrees$GrammarReader", "<init>", "(LWeightedTrees$Draft;LWeightedTrees$Grammar;)V"⟩, prog_5_method_1_code, 3, none, 1, 24)
abbrev M_Rd_firstWrongLine : MethodName × ByteArray × Nat × Option FieldType × Nat × Nat := (⟨"WeightedTrees$GrammarReader", "firstWrongLine", "()I"⟩, prog_5_method_2_code, 3, (some .int), 5, 107)
abbrev M_Rd_isLeftOut : MethodName × ByteArray × Nat × Option FieldType × Nat × Nat := (⟨"WeightedTrees$GrammarReader", "isLeftOut", "()Z"⟩, prog_5_method_3_code, 1, (some .boolean), 2, 41)
abbrev M_Rd_readRule : MethodName × ByteArray × Nat × Option FieldType × Nat × Nat := (⟨"WeightedTrees$GrammarReader", "readRule", "()Z"⟩, prog_5_method_4_code, 3, (some .boolean), 4, 85)
abbrev M_Rd_readHead : MethodName × ByteArray × Nat × Option FieldType × Nat × Nat := (⟨"WeightedTrees$GrammarReader", "readHead", "(I)Z"⟩, prog_5_method_5_code, 2, (some .boolean), 2, 43)
abbrev M_Rd_readBody : MethodName × ByteArray × Nat × Option FieldType × Nat × Nat := (⟨"WeightedTrees$GrammarReader", "readBody", "(I)Z"⟩, prog_5_method_6_code, 4, (some .boolean), 2, 43)
abbrev M_Rd_readSymbol : MethodName × ByteArray × Nat × Option FieldType × Nat × Nat := (⟨"WeightedTrees$GrammarReader", "readSymbol", "()I"⟩, prog_5_method_7_code, 2, (some .int), 1, 22)
abbrev M_Rd_readWeight : MethodName × ByteArray × Nat × Option FieldType × Nat × Nat := (⟨"WeightedTrees$GrammarReader", "readWeight", "(I)Z"⟩, prog_5_method_8_code, 4, (some .boolean), 3, 62)
abbrev M_Rd_readCost : MethodName × ByteArray × Nat × Option FieldType × Nat × Nat := (⟨"WeightedTrees$GrammarReader", "readCost", "(I)Z"⟩, prog_5_method_9_code, 3, (some .boolean), 2, 42)
abbrev M_Rd_readNumber : MethodName × ByteArray × Nat × Option FieldType × Nat × Nat := (⟨"WeightedTrees$GrammarReader", "readNumber", "()I"⟩, prog_5_method_10_code, 3, (some .int), 1, 20)
abbrev M_Rd_inverse : MethodName × ByteArray × Nat × Option FieldType × Nat × Nat := (⟨"WeightedTrees$GrammarReader", "inverse", "(J)J"⟩, prog_5_method_11_code, 5, (some .long), 0, 0)
abbrev M_Rd_seen : MethodName × ByteArray × Nat × Option FieldType × Nat × Nat := (⟨"WeightedTrees$GrammarReader", "seen", "()I"⟩, prog_5_method_12_code, 1, (some .int), 0, 0)
abbrev M_Rd_sees : MethodName × ByteArray × Nat × Option FieldType × Nat × Nat := (⟨"WeightedTrees$GrammarReader", "sees", "(C)Z"⟩, prog_5_method_13_code, 2, (some .boolean), 1, 20)
abbrev M_Rd_skip : MethodName × ByteArray × Nat × Option FieldType × Nat × Nat := (⟨"WeightedTrees$GrammarReader", "skip", "(C)Z"⟩, prog_5_method_14_code, 2, (some .boolean), 2, 41)
abbrev M_Md_init : MethodName × ByteArray × Nat × Option FieldType × Nat × Nat := (⟨"WeightedTreesModel", "<init>", "()V"⟩, prog_9_method_1_code, 1, none, 1, 24)
abbrev M_Md_thrown : MethodName × ByteArray × Nat × Option FieldType × Nat × Nat := (⟨"WeightedTreesModel", "thrown", "()I"⟩, prog_9_method_2_code, 1, (some .int), 0, 0)
abbrev M_Md_put : MethodName × ByteArray × Nat × Option FieldType × Nat × Nat := (⟨"WeightedTreesModel", "put", "(IJ)Z"⟩, prog_9_method_3_code, 7, (some .boolean), 0, 0)
abbrev M_Md_scrap : MethodName × ByteArray × Nat × Option FieldType × Nat × Nat := (⟨"WeightedTreesModel", "scrap", "()V"⟩, prog_9_method_4_code, 1, none, 0, 0)
abbrev M_Md_next : MethodName × ByteArray × Nat × Option FieldType × Nat × Nat := (⟨"WeightedTreesModel", "next", "(I)Z"⟩, prog_9_method_5_code, 3, (some .boolean), 0, 0)
abbrev M_Md_isCapital : MethodName × ByteArray × Nat × Option FieldType × Nat × Nat := (⟨"WeightedTreesModel", "isCapital", "(I)Z"⟩, prog_9_method_6_code, 1, (some .boolean), 0, 0)
abbrev M_Md_isSmall : MethodName × ByteArray × Nat × Option FieldType × Nat × Nat := (⟨"WeightedTreesModel", "isSmall", "(I)Z"⟩, prog_9_method_7_code, 1, (some .boolean), 0, 0)
abbrev M_Md_isFigure : MethodName × ByteArray × Nat × Option FieldType × Nat × Nat := (⟨"WeightedTreesModel", "isFigure", "()Z"⟩, prog_9_method_8_code, 1, (some .boolean), 0, 0)
abbrev M_Md_number : MethodName × ByteArray × Nat × Option FieldType × Nat × Nat := (⟨"WeightedTreesModel", "number", "()Z"⟩, prog_9_method_9_code, 2, (some .boolean), 1, 20)
abbrev M_Md_symbol : MethodName × ByteArray × Nat × Option FieldType × Nat × Nat := (⟨"WeightedTreesModel", "symbol", "(I)I"⟩, prog_9_method_10_code, 3, (some .int), 0, 0)
abbrev M_Md_inverse : MethodName × ByteArray × Nat × Option FieldType × Nat × Nat := (⟨"WeightedTreesModel", "inverse", "(J)J"⟩, prog_9_method_11_code, 5, (some .long), 0, 0)
abbrev M_Md_body : MethodName × ByteArray × Nat × Option FieldType × Nat × Nat := (⟨"WeightedTreesModel", "body", "(I)Z"⟩, prog_9_method_12_code, 3, (some .boolean), 1, 22)
abbrev M_Md_ruleLine : MethodName × ByteArray × Nat × Option FieldType × Nat × Nat := (⟨"WeightedTreesModel", "ruleLine", "()Z"⟩, prog_9_method_13_code, 2, (some .boolean), 2, 44)
abbrev M_Md_readGrammar : MethodName × ByteArray × Nat × Option FieldType × Nat × Nat := (⟨"WeightedTreesModel", "readGrammar", "(I)I"⟩, prog_9_method_14_code, 6, (some .int), 3, 65)
abbrev M_Md_isLetter : MethodName × ByteArray × Nat × Option FieldType × Nat × Nat := (⟨"WeightedTreesModel", "isLetter", "(I)Z"⟩, prog_9_method_15_code, 2, (some .boolean), 0, 0)
abbrev M_Md_emptyBody : MethodName × ByteArray × Nat × Option FieldType × Nat × Nat := (⟨"WeightedTreesModel", "emptyBody", "(II)J"⟩, prog_9_method_16_code, 7, (some .long), 1, 21)
abbrev M_Md_emptyBodyCost : MethodName × ByteArray × Nat × Option FieldType × Nat × Nat := (⟨"WeightedTreesModel", "emptyBodyCost", "(II)I"⟩, prog_9_method_17_code, 7, (some .int), 1, 21)
abbrev M_Md_findEmptyable : MethodName × ByteArray × Nat × Option FieldType × Nat × Nat := (⟨"WeightedTreesModel", "findEmptyable", "()V"⟩, prog_9_method_18_code, 3, none, 2, 47)
abbrev M_Md_loops : MethodName × ByteArray × Nat × Option FieldType × Nat × Nat := (⟨"WeightedTreesModel", "loops", "()Z"⟩, prog_9_method_19_code, 6, (some .boolean), 3, 69)
abbrev M_Md_fillEmpty : MethodName × ByteArray × Nat × Option FieldType × Nat × Nat := (⟨"WeightedTreesModel", "fillEmpty", "()V"⟩, prog_9_method_20_code, 8, none, 2, 47)
abbrev M_Md_fillUnits : MethodName × ByteArray × Nat × Option FieldType × Nat × Nat := (⟨"WeightedTreesModel", "fillUnits", "()V"⟩, prog_9_method_21_code, 9, none, 2, 47)
abbrev M_Md_take : MethodName × ByteArray × Nat × Option FieldType × Nat × Nat := (⟨"WeightedTreesModel", "take", "(I)I"⟩, prog_9_method_22_code, 3, (some .int), 4, 94)
abbrev M_Md_load : MethodName × ByteArray × Nat × Option FieldType × Nat × Nat := (⟨"WeightedTreesModel", "load", "()I"⟩, prog_9_method_23_code, 3, (some .int), 5, 116)
abbrev M_Md_wrong : MethodName × ByteArray × Nat × Option FieldType × Nat × Nat := (⟨"WeightedTreesModel", "wrong", "()I"⟩, prog_9_method_24_code, 1, (some .int), 0, 0)
abbrev M_Md_cell : MethodName × ByteArray × Nat × Option FieldType × Nat × Nat := (⟨"WeightedTreesModel", "cell", "(III)I"⟩, prog_9_method_25_code, 3, (some .int), 0, 0)
abbrev M_Md_sumOf : MethodName × ByteArray × Nat × Option FieldType × Nat × Nat := (⟨"WeightedTreesModel", "sumOf", "(III)J"⟩, prog_9_method_26_code, 4, (some .long), 1, 22)
abbrev M_Md_costOf : MethodName × ByteArray × Nat × Option FieldType × Nat × Nat := (⟨"WeightedTreesModel", "costOf", "(III)I"⟩, prog_9_method_27_code, 4, (some .int), 1, 22)
abbrev M_Md_bodySum : MethodName × ByteArray × Nat × Option FieldType × Nat × Nat := (⟨"WeightedTreesModel", "bodySum", "(III)J"⟩, prog_9_method_28_code, 7, (some .long), 2, 45)
abbrev M_Md_bodyCost : MethodName × ByteArray × Nat × Option FieldType × Nat × Nat := (⟨"WeightedTreesModel", "bodyCost", "(III)I"⟩, prog_9_method_29_code, 11, (some .int), 2, 45)
abbrev M_Md_fillPart : MethodName × ByteArray × Nat × Option FieldType × Nat × Nat := (⟨"WeightedTreesModel", "fillPart", "(II)V"⟩, prog_9_method_30_code, 10, none, 3, 75)
abbrev M_Md_parse : MethodName × ByteArray × Nat × Option FieldType × Nat × Nat := (⟨"WeightedTreesModel", "parse", "()Z"⟩, prog_9_method_31_code, 5, (some .boolean), 4, 104)
abbrev M_Md_ruleFor : MethodName × ByteArray × Nat × Option FieldType × Nat × Nat := (⟨"WeightedTreesModel", "ruleFor", "(III)I"⟩, prog_9_method_32_code, 7, (some .int), 3, 75)
abbrev M_Md_defer : MethodName × ByteArray × Nat × Option FieldType × Nat × Nat := (⟨"WeightedTreesModel", "defer", "(IIII)I"⟩, prog_9_method_33_code, 5, (some .int), 0, 0)
abbrev M_Md_turnOver : MethodName × ByteArray × Nat × Option FieldType × Nat × Nat := (⟨"WeightedTreesModel", "turnOver", "(II)V"⟩, prog_9_method_34_code, 7, none, 0, 0)
abbrev M_Md_unroll : MethodName × ByteArray × Nat × Option FieldType × Nat × Nat := (⟨"WeightedTreesModel", "unroll", "(III)V"⟩, prog_9_method_35_code, 14, none, 4, 101)
abbrev M_Md_isSymbol : MethodName × ByteArray × Nat × Option FieldType × Nat × Nat := (⟨"WeightedTreesModel", "isSymbol", "(I)Z"⟩, prog_9_method_36_code, 2, (some .boolean), 0, 0)
abbrev M_Md_refusal : MethodName × ByteArray × Nat × Option FieldType × Nat × Nat := (⟨"WeightedTreesModel", "refusal", "(III)I"⟩, prog_9_method_37_code, 4, (some .int), 1, 21)
abbrev M_Md_count : MethodName × ByteArray × Nat × Option FieldType × Nat × Nat := (⟨"WeightedTreesModel", "count", "(I)I"⟩, prog_9_method_38_code, 2, (some .int), 0, 0)
abbrev M_Md_name : MethodName × ByteArray × Nat × Option FieldType × Nat × Nat := (⟨"WeightedTreesModel", "name", "(I)I"⟩, prog_9_method_39_code, 2, (some .int), 1, 21)
abbrev M_Md_weight : MethodName × ByteArray × Nat × Option FieldType × Nat × Nat := (⟨"WeightedTreesModel", "weight", "(I)J"⟩, prog_9_method_40_code, 2, (some .long), 0, 0)
abbrev M_Md_empty : MethodName × ByteArray × Nat × Option FieldType × Nat × Nat := (⟨"WeightedTreesModel", "empty", "(I)J"⟩, prog_9_method_41_code, 2, (some .long), 1, 21)
abbrev M_Md_unit : MethodName × ByteArray × Nat × Option FieldType × Nat × Nat := (⟨"WeightedTreesModel", "unit", "(II)J"⟩, prog_9_method_42_code, 3, (some .long), 1, 21)
abbrev M_Md_inside : MethodName × ByteArray × Nat × Option FieldType × Nat × Nat := (⟨"WeightedTreesModel", "inside", "(III)J"⟩, prog_9_method_43_code, 4, (some .long), 2, 45)
abbrev M_Md_cheapest : MethodName × ByteArray × Nat × Option FieldType × Nat × Nat := (⟨"WeightedTreesModel", "cheapest", "(III)I"⟩, prog_9_method_44_code, 4, (some .int), 2, 45)
abbrev M_Md_build : MethodName × ByteArray × Nat × Option FieldType × Nat × Nat := (⟨"WeightedTreesModel", "build", "(III)I"⟩, prog_9_method_45_code, 4, (some .int), 5, 134)
abbrev M_Md_node : MethodName × ByteArray × Nat × Option FieldType × Nat × Nat := (⟨"WeightedTreesModel", "node", "(II)I"⟩, prog_9_method_46_code, 3, (some .int), 0, 0)
abbrev M_Lw_load : MethodName × ByteArray × Nat × Option FieldType × Nat × Nat := (⟨"WeightedTreesLaw", "load", "(LWeightedTrees;[J)I"⟩, method_3_code, 3, (some .int), 7, 175)
abbrev M_Lw_parse : MethodName × ByteArray × Nat × Option FieldType × Nat × Nat := (⟨"WeightedTreesLaw", "parse", "(LWeightedTrees;[J)I"⟩, method_4_code, 3, (some .int), 7, 178)
abbrev M_Lw_name : MethodName × ByteArray × Nat × Option FieldType × Nat × Nat := (⟨"WeightedTreesLaw", "name", "(LWeightedTrees;I[J)I"⟩, method_5_code, 4, (some .int), 8, 142)
abbrev M_Lw_weight : MethodName × ByteArray × Nat × Option FieldType × Nat × Nat := (⟨"WeightedTreesLaw", "weight", "(LWeightedTrees;I[J)I"⟩, method_6_code, 4, (some .int), 7, 121)
abbrev M_Lw_empty : MethodName × ByteArray × Nat × Option FieldType × Nat × Nat := (⟨"WeightedTreesLaw", "empty", "(LWeightedTrees;I[J)I"⟩, method_7_code, 4, (some .int), 8, 142)
abbrev M_Lw_unit : MethodName × ByteArray × Nat × Option FieldType × Nat × Nat := (⟨"WeightedTreesLaw", "unit", "(LWeightedTrees;II[J)I"⟩, method_8_code, 5, (some .int), 8, 143)
abbrev M_Lw_inside : MethodName × ByteArray × Nat × Option FieldType × Nat × Nat := (⟨"WeightedTreesLaw", "inside", "(LWeightedTrees;III[J)I"⟩, method_9_code, 6, (some .int), 8, 145)
abbrev M_Lw_cheapest : MethodName × ByteArray × Nat × Option FieldType × Nat × Nat := (⟨"WeightedTreesLaw", "cheapest", "(LWeightedTrees;III[J)I"⟩, method_10_code, 6, (some .int), 8, 145)
abbrev M_Lw_build : MethodName × ByteArray × Nat × Option FieldType × Nat × Nat := (⟨"WeightedTreesLaw", "build", "(LWeightedTrees;III[J)I"⟩, method_11_code, 6, (some .int), 8, 145)
abbrev M_Lw_node : MethodName × ByteArray × Nat × Option FieldType × Nat × Nat := (⟨"WeightedTreesLaw", "node", "(LWeightedTrees;II[J)I"⟩, method_12_code, 5, (some .int), 7, 122)
abbrev M_Ji_bitCount : MethodName × ByteArray × Nat × Option FieldType × Nat × Nat := (⟨"java/lang/Integer", "bitCount", "(I)I"⟩, prog_14_method_49_code, 1, (some .int), 0, 0)
abbrev M_Jm_min : MethodName × ByteArray × Nat × Option FieldType × Nat × Nat := (⟨"java/lang/Math", "min", "(II)I"⟩, prog_15_method_69_code, 2, (some .int), 0, 0)
abbrev M_Lw_law : MethodName × ByteArray × Nat × Option FieldType × Nat × Nat := (⟨"WeightedTreesLaw", "law", "([I)Z"⟩, code, 8, (some .boolean), 11, 402)
def dt_Wt_init : List (Nat × Instr × Nat) := [(0, .aload_n 0, 1), (1, .invokespecial 1, 3), (4, .aload_n 0, 1), (5, .new 7, 3), (8, .dup, 1), (9, .invokespecial 9, 3), (12, .putfield 10, 3), (15, .aload_n 0, 1), (16, .new 16, 3), (19, .dup, 1), (20, .invokespecial 18, 3), (23, .putfield 19, 3), (26, .aload_n 0, 1), (27, .new 23, 3), (30, .dup, 1), (31, .invokespecial 25, 3), (34, .putfield 26, 3), (37, .aload_n 0, 1), (38, .new 30, 3), (41, .dup, 1), (42, .invokespecial 32, 3), (45, .putfield 33, 3), (48, .aload_n 0, 1), (49, .new 37, 3), (52, .dup, 1), (53, .invokespecial 39, 3), (56, .putfield 40, 3), (59, .aload_n 0, 1), (60, .new 37, 3), (63, .dup, 1), (64, .invokespecial 39, 3), (67, .putfield 44, 3), (70, .aload_n 0, 1), (71, .iconst 0, 1), (72, .putfield 47, 3), (75, .return_, 1)]
theorem dt_Wt_init_ok : ∀ e ∈ dt_Wt_init, decode prog_1_method_1_code e.1 = .ok e.2 := by decide +kernel
theorem dc_Wt_init (k : Nat) {pc : Nat} {i : Instr} {n : Nat} (h : dt_Wt_init[k]? = some (pc, i, n)) : decode prog_1_method_1_code pc = .ok (i, n) := rn_dc dt_Wt_init_ok k h
def dt_Wt_put : List (Nat × Instr × Nat) := [(0, .aload_n 0, 1), (1, .getfield 10, 3), (4, .iload_n 1, 1), (5, .lload_n 2, 1), (6, .invokevirtual 51, 3), (9, .ireturn, 1)]
theorem dt_Wt_put_ok : ∀ e ∈ dt_Wt_put, decode prog_1_method_2_code e.1 = .ok e.2 := by decide +kernel
theorem dc_Wt_put (k : Nat) {pc : Nat} {i : Instr} {n : Nat} (h : dt_Wt_put[k]? = some (pc, i, n)) : decode prog_1_method_2_code pc = .ok (i, n) := rn_dc dt_Wt_put_ok k h
def dt_Wt_scrap : List (Nat × Instr × Nat) := [(0, .aload_n 0, 1), (1, .getfield 10, 3), (4, .invokevirtual 55, 3), (7, .return_, 1)]
theorem dt_Wt_scrap_ok : ∀ e ∈ dt_Wt_scrap, decode prog_1_method_3_code e.1 = .ok e.2 := by decide +kernel
theorem dc_Wt_scrap (k : Nat) {pc : Nat} {i : Instr} {n : Nat} (h : dt_Wt_scrap[k]? = some (pc, i, n)) : decode prog_1_method_3_code pc = .ok (i, n) := rn_dc dt_Wt_scrap_ok k h
def dt_Wt_load : List (Nat × Instr × Nat) := [(0, .new 58, 3), (3, .dup, 1), (4, .aload_n 0, 1), (5, .getfield 10, 3), (8, .aload_n 0, 1), (9, .getfield 44, 3), (12, .invokespecial 60, 3), (15, .invokevirtual 63, 3), (18, .istore_n 1, 1), (19, .aload_n 0, 1), (20, .getfield 10, 3), (23, .invokevirtual 55, 3), (26, .iload_n 1, 1), (27, .ifCond .eq (18), 3), (30, .aload_n 0, 1), (31, .iload_n 1, 1), (32, .putfield 47, 3), (35, .new 67, 3), (38, .dup, 1), (39, .ldc 69, 2), (41, .invokespecial 71, 3), (44, .athrow, 1), (45, .aload_n 0, 1), (46, .getfield 44, 3), (49, .invokevirtual 74, 3), (52, .ifCond .ne (13), 3), (55, .new 78, 3), (58, .dup, 1), (59, .ldc 80, 2), (61, .invokespecial 82, 3), (64, .athrow, 1), (65, .aload_n 0, 1), (66, .invokevirtual 83, 3), (69, .aload_n 0, 1), (70, .getfield 40, 3), (73, .getfield 86, 3), (76, .ireturn, 1)]
theorem dt_Wt_load_ok : ∀ e ∈ dt_Wt_load, decode prog_1_method_4_code e.1 = .ok e.2 := by decide +kernel
theorem dc_Wt_load (k : Nat) {pc : Nat} {i : Instr} {n : Nat} (h : dt_Wt_load[k]? = some (pc, i, n)) : decode prog_1_method_4_code pc = .ok (i, n) := rn_dc dt_Wt_load_ok k h
def dt_Wt_wrong : List (Nat × Instr × Nat) := [(0, .aload_n 0, 1), (1, .getfield 47, 3), (4, .ireturn, 1)]
theorem dt_Wt_wrong_ok : ∀ e ∈ dt_Wt_wrong, decode prog_1_method_5_code e.1 = .ok e.2 := by decide +kernel
theorem dc_Wt_wrong (k : Nat) {pc : Nat} {i : Instr} {n : Nat} (h : dt_Wt_wrong[k]? = some (pc, i, n)) : decode prog_1_method_5_code pc = .ok (i, n) := rn_dc dt_Wt_wrong_ok k h
def dt_Wt_parse : List (Nat × Instr × Nat) := [(0, .aload_n 0, 1), (1, .getfield 10, 3), (4, .invokevirtual 89, 3), (7, .istore_n 1, 1), (8, .iload_n 1, 1), (9, .ifCond .eq (14), 3), (12, .aload_n 0, 1), (13, .invokevirtual 92, 3), (16, .ifCond .eq (7), 3), (19, .iconst 1, 1), (20, .goto (4), 3), (23, .iconst 0, 1), (24, .istore_n 2, 1), (25, .iload_n 2, 1), (26, .ifCond .eq (14), 3), (29, .aload_n 0, 1), (30, .getfield 19, 3), (33, .aload_n 0, 1), (34, .getfield 10, 3), (37, .invokevirtual 95, 3), (40, .aload_n 0, 1), (41, .getfield 10, 3), (44, .invokevirtual 55, 3), (47, .iload_n 1, 1), (48, .ifCond .ne (13), 3), (51, .new 67, 3), (54, .dup, 1), (55, .ldc 99, 2), (57, .invokespecial 71, 3), (60, .athrow, 1), (61, .iload_n 2, 1), (62, .ifCond .ne (13), 3), (65, .new 78, 3), (68, .dup, 1), (69, .ldc 101, 2), (71, .invokespecial 82, 3), (74, .athrow, 1), (75, .aload_n 0, 1), (76, .getfield 33, 3), (79, .invokevirtual 103, 3), (82, .aload_n 0, 1), (83, .getfield 19, 3), (86, .aload_n 0, 1), (87, .getfield 40, 3), (90, .invokevirtual 104, 3), (93, .aload_n 0, 1), (94, .getfield 19, 3), (97, .iconst 0, 1), (98, .iconst 0, 1), (99, .aload_n 0, 1), (100, .getfield 19, 3), (103, .getfield 108, 3), (106, .invokevirtual 111, 3), (109, .ireturn, 1)]
theorem dt_Wt_parse_ok : ∀ e ∈ dt_Wt_parse, decode prog_1_method_6_code e.1 = .ok e.2 := by decide +kernel
theorem dc_Wt_parse (k : Nat) {pc : Nat} {i : Instr} {n : Nat} (h : dt_Wt_parse[k]? = some (pc, i, n)) : decode prog_1_method_6_code pc = .ok (i, n) := rn_dc dt_Wt_parse_ok k h
def dt_Wt_count : List (Nat × Instr × Nat) := [(0, .iload_n 1, 1), (1, .tableswitch (73) (0) (2) #[27, 46, 65], 27), (28, .aload_n 0, 1), (29, .invokevirtual 92, 3), (32, .ifCond .eq (13), 3), (35, .aload_n 0, 1), (36, .getfield 40, 3), (39, .getfield 86, 3), (42, .goto (4), 3), (45, .iconst (-1), 1), (46, .ireturn, 1), (47, .aload_n 0, 1), (48, .invokevirtual 92, 3), (51, .ifCond .eq (13), 3), (54, .aload_n 0, 1), (55, .getfield 40, 3), (58, .getfield 115, 3), (61, .goto (4), 3), (64, .iconst (-1), 1), (65, .ireturn, 1), (66, .aload_n 0, 1), (67, .getfield 19, 3), (70, .getfield 108, 3), (73, .ireturn, 1), (74, .iconst (-1), 1), (75, .ireturn, 1)]
theorem dt_Wt_count_ok : ∀ e ∈ dt_Wt_count, decode prog_1_method_7_code e.1 = .ok e.2 := by decide +kernel
theorem dc_Wt_count (k : Nat) {pc : Nat} {i : Instr} {n : Nat} (h : dt_Wt_count[k]? = some (pc, i, n)) : decode prog_1_method_7_code pc = .ok (i, n) := rn_dc dt_Wt_count_ok k h
def dt_Wt_name : List (Nat × Instr × Nat) := [(0, .aload_n 0, 1), (1, .iload_n 1, 1), (2, .invokevirtual 118, 3), (5, .aload_n 0, 1), (6, .getfield 40, 3), (9, .getfield 122, 3), (12, .iload_n 1, 1), (13, .iaload, 1), (14, .ireturn, 1)]
theorem dt_Wt_name_ok : ∀ e ∈ dt_Wt_name, decode prog_1_method_8_code e.1 = .ok e.2 := by decide +kernel
theorem dc_Wt_name (k : Nat) {pc : Nat} {i : Instr} {n : Nat} (h : dt_Wt_name[k]? = some (pc, i, n)) : decode prog_1_method_8_code pc = .ok (i, n) := rn_dc dt_Wt_name_ok k h
def dt_Wt_weight : List (Nat × Instr × Nat) := [(0, .iload_n 1, 1), (1, .ifCond .lt (14), 3), (4, .iload_n 1, 1), (5, .aload_n 0, 1), (6, .getfield 40, 3), (9, .getfield 86, 3), (12, .if_icmp .lt (13), 3), (15, .new 126, 3), (18, .dup, 1), (19, .ldc 128, 2), (21, .invokespecial 130, 3), (24, .athrow, 1), (25, .aload_n 0, 1), (26, .getfield 40, 3), (29, .getfield 131, 3), (32, .iload_n 1, 1), (33, .laload, 1), (34, .lreturn, 1)]
theorem dt_Wt_weight_ok : ∀ e ∈ dt_Wt_weight, decode prog_1_method_9_code e.1 = .ok e.2 := by decide +kernel
theorem dc_Wt_weight (k : Nat) {pc : Nat} {i : Instr} {n : Nat} (h : dt_Wt_weight[k]? = some (pc, i, n)) : decode prog_1_method_9_code pc = .ok (i, n) := rn_dc dt_Wt_weight_ok k h
def dt_Wt_empty : List (Nat × Instr × Nat) := [(0, .aload_n 0, 1), (1, .iload_n 1, 1), (2, .invokevirtual 118, 3), (5, .aload_n 0, 1), (6, .getfield 19, 3), (9, .iload_n 1, 1), (10, .invokevirtual 135, 3), (13, .lreturn, 1)]
theorem dt_Wt_empty_ok : ∀ e ∈ dt_Wt_empty, decode prog_1_method_10_code e.1 = .ok e.2 := by decide +kernel
theorem dc_Wt_empty (k : Nat) {pc : Nat} {i : Instr} {n : Nat} (h : dt_Wt_empty[k]? = some (pc, i, n)) : decode prog_1_method_10_code pc = .ok (i, n) := rn_dc dt_Wt_empty_ok k h
def dt_Wt_unit : List (Nat × Instr × Nat) := [(0, .aload_n 0, 1), (1, .iload_n 1, 1), (2, .invokevirtual 118, 3), (5, .aload_n 0, 1), (6, .iload_n 2, 1), (7, .invokevirtual 118, 3), (10, .aload_n 0, 1), (11, .getfield 26, 3), (14, .iload_n 1, 1), (15, .iload_n 2, 1), (16, .invokevirtual 139, 3), (19, .lreturn, 1)]
theorem dt_Wt_unit_ok : ∀ e ∈ dt_Wt_unit, decode prog_1_method_11_code e.1 = .ok e.2 := by decide +kernel
theorem dc_Wt_unit (k : Nat) {pc : Nat} {i : Instr} {n : Nat} (h : dt_Wt_unit[k]? = some (pc, i, n)) : decode prog_1_method_11_code pc = .ok (i, n) := rn_dc dt_Wt_unit_ok k h
def dt_Wt_inside : List (Nat × Instr × Nat) := [(0, .aload_n 0, 1), (1, .iload_n 1, 1), (2, .invokevirtual 118, 3), (5, .aload_n 0, 1), (6, .iload_n 2, 1), (7, .iload_n 3, 1), (8, .invokevirtual 143, 3), (11, .aload_n 0, 1), (12, .getfield 19, 3), (15, .getfield 147, 3), (18, .iload_n 1, 1), (19, .iload_n 2, 1), (20, .iload_n 3, 1), (21, .invokestatic 150, 3), (24, .laload, 1), (25, .lreturn, 1)]
theorem dt_Wt_inside_ok : ∀ e ∈ dt_Wt_inside, decode prog_1_method_12_code e.1 = .ok e.2 := by decide +kernel
theorem dc_Wt_inside (k : Nat) {pc : Nat} {i : Instr} {n : Nat} (h : dt_Wt_inside[k]? = some (pc, i, n)) : decode prog_1_method_12_code pc = .ok (i, n) := rn_dc dt_Wt_inside_ok k h
def dt_Wt_cheapest : List (Nat × Instr × Nat) := [(0, .aload_n 0, 1), (1, .iload_n 1, 1), (2, .invokevirtual 118, 3), (5, .aload_n 0, 1), (6, .iload_n 2, 1), (7, .iload_n 3, 1), (8, .invokevirtual 143, 3), (11, .aload_n 0, 1), (12, .getfield 19, 3), (15, .getfield 154, 3), (18, .iload_n 1, 1), (19, .iload_n 2, 1), (20, .iload_n 3, 1), (21, .invokestatic 150, 3), (24, .iaload, 1), (25, .ireturn, 1)]
theorem dt_Wt_cheapest_ok : ∀ e ∈ dt_Wt_cheapest, decode prog_1_method_13_code e.1 = .ok e.2 := by decide +kernel
theorem dc_Wt_cheapest (k : Nat) {pc : Nat} {i : Instr} {n : Nat} (h : dt_Wt_cheapest[k]? = some (pc, i, n)) : decode prog_1_method_13_code pc = .ok (i, n) := rn_dc dt_Wt_cheapest_ok k h
def dt_Wt_build : List (Nat × Instr × Nat) := [(0, .aload_n 0, 1), (1, .iload_n 1, 1), (2, .invokevirtual 118, 3), (5, .aload_n 0, 1), (6, .iload_n 2, 1), (7, .iload_n 3, 1), (8, .invokevirtual 143, 3), (11, .aload_n 0, 1), (12, .getfield 19, 3), (15, .iload_n 1, 1), (16, .iload_n 2, 1), (17, .iload_n 3, 1), (18, .invokevirtual 111, 3), (21, .ifCond .ne (13), 3), (24, .new 78, 3), (27, .dup, 1), (28, .ldc 157, 2), (30, .invokespecial 82, 3), (33, .athrow, 1), (34, .aload_n 0, 1), (35, .getfield 33, 3), (38, .aload_n 0, 1), (39, .getfield 40, 3), (42, .aload_n 0, 1), (43, .getfield 19, 3), (46, .iload_n 1, 1), (47, .iload_n 2, 1), (48, .iload_n 3, 1), (49, .invokevirtual 159, 3), (52, .aload_n 0, 1), (53, .getfield 33, 3), (56, .getfield 163, 3), (59, .ireturn, 1)]
theorem dt_Wt_build_ok : ∀ e ∈ dt_Wt_build, decode prog_1_method_14_code e.1 = .ok e.2 := by decide +kernel
theorem dc_Wt_build (k : Nat) {pc : Nat} {i : Instr} {n : Nat} (h : dt_Wt_build[k]? = some (pc, i, n)) : decode prog_1_method_14_code pc = .ok (i, n) := rn_dc dt_Wt_build_ok k h
def dt_Wt_node : List (Nat × Instr × Nat) := [(0, .iload_n 1, 1), (1, .ifCond .lt (14), 3), (4, .iload_n 1, 1), (5, .aload_n 0, 1), (6, .getfield 33, 3), (9, .invokevirtual 166, 3), (12, .if_icmp .lt (13), 3), (15, .new 126, 3), (18, .dup, 1), (19, .ldc 169, 2), (21, .invokespecial 130, 3), (24, .athrow, 1), (25, .iload_n 2, 1), (26, .tableswitch (56) (0) (2) #[26, 36, 46], 26), (52, .aload_n 0, 1), (53, .getfield 33, 3), (56, .getfield 171, 3), (59, .iload_n 1, 1), (60, .iaload, 1), (61, .ireturn, 1), (62, .aload_n 0, 1), (63, .getfield 33, 3), (66, .getfield 174, 3), (69, .iload_n 1, 1), (70, .iaload, 1), (71, .ireturn, 1), (72, .aload_n 0, 1), (73, .getfield 33, 3), (76, .getfield 177, 3), (79, .iload_n 1, 1), (80, .iaload, 1), (81, .ireturn, 1), (82, .iconst (-1), 1), (83, .ireturn, 1)]
theorem dt_Wt_node_ok : ∀ e ∈ dt_Wt_node, decode prog_1_method_15_code e.1 = .ok e.2 := by decide +kernel
theorem dc_Wt_node (k : Nat) {pc : Nat} {i : Instr} {n : Nat} (h : dt_Wt_node[k]? = some (pc, i, n)) : decode prog_1_method_15_code pc = .ok (i, n) := rn_dc dt_Wt_node_ok k h
def dt_Wt_hasGrammar : List (Nat × Instr × Nat) := [(0, .aload_n 0, 1), (1, .getfield 40, 3), (4, .getfield 86, 3), (7, .ifCond .le (7), 3), (10, .iconst 1, 1), (11, .goto (4), 3), (14, .iconst 0, 1), (15, .ireturn, 1)]
theorem dt_Wt_hasGrammar_ok : ∀ e ∈ dt_Wt_hasGrammar, decode prog_1_method_16_code e.1 = .ok e.2 := by decide +kernel
theorem dc_Wt_hasGrammar (k : Nat) {pc : Nat} {i : Instr} {n : Nat} (h : dt_Wt_hasGrammar[k]? = some (pc, i, n)) : decode prog_1_method_16_code pc = .ok (i, n) := rn_dc dt_Wt_hasGrammar_ok k h
def dt_Wt_takeSpareGrammar : List (Nat × Instr × Nat) := [(0, .aload_n 0, 1), (1, .getfield 40, 3), (4, .astore_n 1, 1), (5, .aload_n 0, 1), (6, .aload_n 0, 1), (7, .getfield 44, 3), (10, .putfield 40, 3), (13, .aload_n 0, 1), (14, .aload_n 1, 1), (15, .putfield 44, 3), (18, .aload_n 0, 1), (19, .getfield 33, 3), (22, .invokevirtual 103, 3), (25, .aload_n 0, 1), (26, .getfield 19, 3), (29, .invokevirtual 180, 3), (32, .aload_n 0, 1), (33, .getfield 19, 3), (36, .aload_n 0, 1), (37, .getfield 40, 3), (40, .iconst 0, 1), (41, .iconst 0, 1), (42, .invokevirtual 183, 3), (45, .aload_n 0, 1), (46, .getfield 26, 3), (49, .aload_n 0, 1), (50, .getfield 40, 3), (53, .aload_n 0, 1), (54, .getfield 19, 3), (57, .invokevirtual 187, 3), (60, .return_, 1)]
theorem dt_Wt_takeSpareGrammar_ok : ∀ e ∈ dt_Wt_takeSpareGrammar, decode prog_1_method_17_code e.1 = .ok e.2 := by decide +kernel
theorem dc_Wt_takeSpareGrammar (k : Nat) {pc : Nat} {i : Instr} {n : Nat} (h : dt_Wt_takeSpareGrammar[k]? = some (pc, i, n)) : decode prog_1_method_17_code pc = .ok (i, n) := rn_dc dt_Wt_takeSpareGrammar_ok k h
def dt_Wt_requireNonterminal : List (Nat × Instr × Nat) := [(0, .iload_n 1, 1), (1, .ifCond .lt (14), 3), (4, .iload_n 1, 1), (5, .aload_n 0, 1), (6, .getfield 40, 3), (9, .getfield 115, 3), (12, .if_icmp .lt (13), 3), (15, .new 126, 3), (18, .dup, 1), (19, .ldc 191, 2), (21, .invokespecial 130, 3), (24, .athrow, 1), (25, .return_, 1)]
theorem dt_Wt_requireNonterminal_ok : ∀ e ∈ dt_Wt_requireNonterminal, decode prog_1_method_18_code e.1 = .ok e.2 := by decide +kernel
theorem dc_Wt_requireNonterminal (k : Nat) {pc : Nat} {i : Instr} {n : Nat} (h : dt_Wt_requireNonterminal[k]? = some (pc, i, n)) : decode prog_1_method_18_code pc = .ok (i, n) := rn_dc dt_Wt_requireNonterminal_ok k h
def dt_Wt_requirePart : List (Nat × Instr × Nat) := [(0, .iload_n 1, 1), (1, .ifCond .lt (19), 3), (4, .iload_n 1, 1), (5, .iload_n 2, 1), (6, .if_icmp .gt (14), 3), (9, .iload_n 2, 1), (10, .aload_n 0, 1), (11, .getfield 19, 3), (14, .getfield 108, 3), (17, .if_icmp .le (13), 3), (20, .new 67, 3), (23, .dup, 1), (24, .ldc 193, 2), (26, .invokespecial 71, 3), (29, .athrow, 1), (30, .return_, 1)]
theorem dt_Wt_requirePart_ok : ∀ e ∈ dt_Wt_requirePart, decode prog_1_method_19_code e.1 = .ok e.2 := by decide +kernel
theorem dc_Wt_requirePart (k : Nat) {pc : Nat} {i : Instr} {n : Nat} (h : dt_Wt_requirePart[k]? = some (pc, i, n)) : decode prog_1_method_19_code pc = .ok (i, n) := rn_dc dt_Wt_requirePart_ok k h
def dt_Wt_isCapital : List (Nat × Instr × Nat) := [(0, .iload_n 0, 1), (1, .bipush (65), 2), (3, .if_icmp .lt (13), 3), (6, .iload_n 0, 1), (7, .bipush (90), 2), (9, .if_icmp .gt (7), 3), (12, .iconst 1, 1), (13, .goto (4), 3), (16, .iconst 0, 1), (17, .ireturn, 1)]
theorem dt_Wt_isCapital_ok : ∀ e ∈ dt_Wt_isCapital, decode prog_1_method_20_code e.1 = .ok e.2 := by decide +kernel
theorem dc_Wt_isCapital (k : Nat) {pc : Nat} {i : Instr} {n : Nat} (h : dt_Wt_isCapital[k]? = some (pc, i, n)) : decode prog_1_method_20_code pc = .ok (i, n) := rn_dc dt_Wt_isCapital_ok k h
def dt_Wt_isSmallLetter : List (Nat × Instr × Nat) := [(0, .iload_n 0, 1), (1, .bipush (97), 2), (3, .if_icmp .lt (13), 3), (6, .iload_n 0, 1), (7, .bipush (122), 2), (9, .if_icmp .gt (7), 3), (12, .iconst 1, 1), (13, .goto (4), 3), (16, .iconst 0, 1), (17, .ireturn, 1)]
theorem dt_Wt_isSmallLetter_ok : ∀ e ∈ dt_Wt_isSmallLetter, decode prog_1_method_21_code e.1 = .ok e.2 := by decide +kernel
theorem dc_Wt_isSmallLetter (k : Nat) {pc : Nat} {i : Instr} {n : Nat} (h : dt_Wt_isSmallLetter[k]? = some (pc, i, n)) : decode prog_1_method_21_code pc = .ok (i, n) := rn_dc dt_Wt_isSmallLetter_ok k h
def dt_Dr_init : List (Nat × Instr × Nat) := [(0, .aload_n 0, 1), (1, .invokespecial 3, 3), (4, .aload_n 0, 1), (5, .sipush (300), 3), (8, .newarray .char, 2), (10, .putfield 9, 3), (13, .aload_n 0, 1), (14, .iconst 0, 1), (15, .putfield 15, 3), (18, .return_, 1)]
theorem dt_Dr_init_ok : ∀ e ∈ dt_Dr_init, decode prog_3_method_1_code e.1 = .ok e.2 := by decide +kernel
theorem dc_Dr_init (k : Nat) {pc : Nat} {i : Instr} {n : Nat} (h : dt_Dr_init[k]? = some (pc, i, n)) : decode prog_3_method_1_code pc = .ok (i, n) := rn_dc dt_Dr_init_ok k h
def dt_Dr_clear : List (Nat × Instr × Nat) := [(0, .aload_n 0, 1), (1, .iconst 0, 1), (2, .putfield 15, 3), (5, .return_, 1)]
theorem dt_Dr_clear_ok : ∀ e ∈ dt_Dr_clear, decode prog_3_method_2_code e.1 = .ok e.2 := by decide +kernel
theorem dc_Dr_clear (k : Nat) {pc : Nat} {i : Instr} {n : Nat} (h : dt_Dr_clear[k]? = some (pc, i, n)) : decode prog_3_method_2_code pc = .ok (i, n) := rn_dc dt_Dr_clear_ok k h
def dt_Dr_append : List (Nat × Instr × Nat) := [(0, .iload_n 1, 1), (1, .iconst 1, 1), (2, .if_icmp .lt (21), 3), (5, .iload_n 1, 1), (6, .bipush (8), 2), (8, .if_icmp .gt (15), 3), (11, .aload_n 0, 1), (12, .getfield 15, 3), (15, .iload_n 1, 1), (16, .iadd, 1), (17, .sipush (300), 3), (20, .if_icmp .le (5), 3), (23, .iconst 0, 1), (24, .ireturn, 1), (25, .iconst 0, 1), (26, .istore 4, 2), (28, .iload 4, 2), (30, .iload_n 1, 1), (31, .if_icmp .ge (23), 3), (34, .lload_n 2, 1), (35, .iload 4, 2), (37, .invokestatic 19, 3), (40, .invokestatic 23, 3), (43, .ifCond .ne (5), 3), (46, .iconst 0, 1), (47, .ireturn, 1), (48, .iinc 4 (1), 3), (51, .goto (-23), 3), (54, .iload_n 1, 1), (55, .iconst 1, 1), (56, .isub, 1), (57, .istore 4, 2), (59, .iload 4, 2), (61, .ifCond .lt (35), 3), (64, .aload_n 0, 1), (65, .getfield 9, 3), (68, .aload_n 0, 1), (69, .getfield 15, 3), (72, .lload_n 2, 1), (73, .iload 4, 2), (75, .invokestatic 19, 3), (78, .i2c, 1), (79, .castore, 1), (80, .aload_n 0, 1), (81, .dup, 1), (82, .getfield 15, 3), (85, .iconst 1, 1), (86, .iadd, 1), (87, .putfield 15, 3), (90, .iinc 4 (-1), 3), (93, .goto (-34), 3), (96, .iconst 1, 1), (97, .ireturn, 1)]
theorem dt_Dr_append_ok : ∀ e ∈ dt_Dr_append, decode prog_3_method_3_code e.1 = .ok e.2 := by decide +kernel
theorem dc_Dr_append (k : Nat) {pc : Nat} {i : Instr} {n : Nat} (h : dt_Dr_append[k]? = some (pc, i, n)) : decode prog_3_method_3_code pc = .ok (i, n) := rn_dc dt_Dr_append_ok k h
def dt_Dr_isText : List (Nat × Instr × Nat) := [(0, .aload_n 0, 1), (1, .getfield 15, 3), (4, .bipush (8), 2), (6, .if_icmp .le (5), 3), (9, .iconst 0, 1), (10, .ireturn, 1), (11, .iconst 0, 1), (12, .istore_n 1, 1), (13, .iload_n 1, 1), (14, .aload_n 0, 1), (15, .getfield 15, 3), (18, .if_icmp .ge (23), 3), (21, .aload_n 0, 1), (22, .getfield 9, 3), (25, .iload_n 1, 1), (26, .caload, 1), (27, .invokestatic 27, 3), (30, .ifCond .ne (5), 3), (33, .iconst 0, 1), (34, .ireturn, 1), (35, .iinc 1 (1), 3), (38, .goto (-25), 3), (41, .iconst 1, 1), (42, .ireturn, 1)]
theorem dt_Dr_isText_ok : ∀ e ∈ dt_Dr_isText, decode prog_3_method_4_code e.1 = .ok e.2 := by decide +kernel
theorem dc_Dr_isText (k : Nat) {pc : Nat} {i : Instr} {n : Nat} (h : dt_Dr_isText[k]? = some (pc, i, n)) : decode prog_3_method_4_code pc = .ok (i, n) := rn_dc dt_Dr_isText_ok k h
def dt_Dr_lineCount : List (Nat × Instr × Nat) := [(0, .iconst 1, 1), (1, .istore_n 1, 1), (2, .iconst 0, 1), (3, .istore_n 2, 1), (4, .iload_n 2, 1), (5, .aload_n 0, 1), (6, .getfield 15, 3), (9, .if_icmp .ge (23), 3), (12, .aload_n 0, 1), (13, .getfield 9, 3), (16, .iload_n 2, 1), (17, .caload, 1), (18, .bipush (10), 2), (20, .if_icmp .ne (6), 3), (23, .iinc 1 (1), 3), (26, .iinc 2 (1), 3), (29, .goto (-25), 3), (32, .iload_n 1, 1), (33, .ireturn, 1)]
theorem dt_Dr_lineCount_ok : ∀ e ∈ dt_Dr_lineCount, decode prog_3_method_5_code e.1 = .ok e.2 := by decide +kernel
theorem dc_Dr_lineCount (k : Nat) {pc : Nat} {i : Instr} {n : Nat} (h : dt_Dr_lineCount[k]? = some (pc, i, n)) : decode prog_3_method_5_code pc = .ok (i, n) := rn_dc dt_Dr_lineCount_ok k h
def dt_Dr_lineEnd : List (Nat × Instr × Nat) := [(0, .iload_n 1, 1), (1, .istore_n 2, 1), (2, .iload_n 2, 1), (3, .aload_n 0, 1), (4, .getfield 15, 3), (7, .if_icmp .ge (22), 3), (10, .aload_n 0, 1), (11, .getfield 9, 3), (14, .iload_n 2, 1), (15, .caload, 1), (16, .bipush (10), 2), (18, .if_icmp .ne (5), 3), (21, .iload_n 2, 1), (22, .ireturn, 1), (23, .iinc 2 (1), 3), (26, .goto (-24), 3), (29, .aload_n 0, 1), (30, .getfield 15, 3), (33, .ireturn, 1)]
theorem dt_Dr_lineEnd_ok : ∀ e ∈ dt_Dr_lineEnd, decode prog_3_method_6_code e.1 = .ok e.2 := by decide +kernel
theorem dc_Dr_lineEnd (k : Nat) {pc : Nat} {i : Instr} {n : Nat} (h : dt_Dr_lineEnd[k]? = some (pc, i, n)) : decode prog_3_method_6_code pc = .ok (i, n) := rn_dc dt_Dr_lineEnd_ok k h
def dt_Dr_codeAt : List (Nat × Instr × Nat) := [(0, .lload_n 0, 1), (1, .bipush (8), 2), (3, .iload_n 2, 1), (4, .imul, 1), (5, .lushr, 1), (6, .ldc2_w 30, 3), (9, .land, 1), (10, .l2i, 1), (11, .ireturn, 1)]
theorem dt_Dr_codeAt_ok : ∀ e ∈ dt_Dr_codeAt, decode prog_3_method_7_code e.1 = .ok e.2 := by decide +kernel
theorem dc_Dr_codeAt (k : Nat) {pc : Nat} {i : Instr} {n : Nat} (h : dt_Dr_codeAt[k]? = some (pc, i, n)) : decode prog_3_method_7_code pc = .ok (i, n) := rn_dc dt_Dr_codeAt_ok k h
def dt_Dr_isAllowed : List (Nat × Instr × Nat) := [(0, .iload_n 0, 1), (1, .bipush (10), 2), (3, .if_icmp .eq (15), 3), (6, .iload_n 0, 1), (7, .bipush (32), 2), (9, .if_icmp .lt (13), 3), (12, .iload_n 0, 1), (13, .bipush (126), 2), (15, .if_icmp .gt (7), 3), (18, .iconst 1, 1), (19, .goto (4), 3), (22, .iconst 0, 1), (23, .ireturn, 1)]
theorem dt_Dr_isAllowed_ok : ∀ e ∈ dt_Dr_isAllowed, decode prog_3_method_8_code e.1 = .ok e.2 := by decide +kernel
theorem dc_Dr_isAllowed (k : Nat) {pc : Nat} {i : Instr} {n : Nat} (h : dt_Dr_isAllowed[k]? = some (pc, i, n)) : decode prog_3_method_8_code pc = .ok (i, n) := rn_dc dt_Dr_isAllowed_ok k h
def dt_Ch_init : List (Nat × Instr × Nat) := [(0, .aload_n 0, 1), (1, .invokespecial 5, 3), (4, .aload_n 0, 1), (5, .sipush (390), 3), (8, .newarray .long, 2), (10, .putfield 11, 3), (13, .aload_n 0, 1), (14, .sipush (390), 3), (17, .newarray .int, 2), (19, .putfield 15, 3), (22, .aload_n 0, 1), (23, .sipush (390), 3), (26, .newarray .int, 2), (28, .putfield 19, 3), (31, .aload_n 0, 1), (32, .sipush (390), 3), (35, .newarray .int, 2), (37, .putfield 22, 3), (40, .aload_n 0, 1), (41, .sipush (390), 3), (44, .newarray .int, 2), (46, .putfield 25, 3), (49, .aload_n 0, 1), (50, .bipush (8), 2), (52, .newarray .char, 2), (54, .putfield 28, 3), (57, .aload_n 0, 1), (58, .iconst (-1), 1), (59, .putfield 32, 3), (62, .aload_n 0, 1), (63, .iconst 5, 1), (64, .bipush (9), 2), (66, .multianewarray 36 2, 4), (70, .putfield 38, 3), (73, .aload_n 0, 1), (74, .iconst 5, 1), (75, .bipush (9), 2), (77, .multianewarray 41 2, 4), (81, .putfield 43, 3), (84, .aload_n 0, 1), (85, .iconst 4, 1), (86, .bipush (9), 2), (88, .multianewarray 41 2, 4), (92, .putfield 46, 3), (95, .return_, 1)]
theorem dt_Ch_init_ok : ∀ e ∈ dt_Ch_init, decode prog_2_method_1_code e.1 = .ok e.2 := by decide +kernel
theorem dc_Ch_init (k : Nat) {pc : Nat} {i : Instr} {n : Nat} (h : dt_Ch_init[k]? = some (pc, i, n)) : decode prog_2_method_1_code pc = .ok (i, n) := rn_dc dt_Ch_init_ok k h
def dt_Ch_cell : List (Nat × Instr × Nat) := [(0, .iload_n 1, 1), (1, .iload_n 2, 1), (2, .if_icmp .ne (7), 3), (5, .iconst 0, 1), (6, .goto (9), 3), (9, .iload_n 1, 1), (10, .bipush (8), 2), (12, .imul, 1), (13, .iload_n 2, 1), (14, .iadd, 1), (15, .istore_n 3, 1), (16, .iload_n 3, 1), (17, .bipush (6), 2), (19, .imul, 1), (20, .iload_n 0, 1), (21, .iadd, 1), (22, .ireturn, 1)]
theorem dt_Ch_cell_ok : ∀ e ∈ dt_Ch_cell, decode prog_2_method_2_code e.1 = .ok e.2 := by decide +kernel
theorem dc_Ch_cell (k : Nat) {pc : Nat} {i : Instr} {n : Nat} (h : dt_Ch_cell[k]? = some (pc, i, n)) : decode prog_2_method_2_code pc = .ok (i, n) := rn_dc dt_Ch_cell_ok k h
def dt_Ch_hasTree : List (Nat × Instr × Nat) := [(0, .aload_n 0, 1), (1, .getfield 15, 3), (4, .iload_n 1, 1), (5, .iload_n 2, 1), (6, .iload_n 3, 1), (7, .invokestatic 49, 3), (10, .iaload, 1), (11, .iconst (-1), 1), (12, .if_icmp .eq (7), 3), (15, .iconst 1, 1), (16, .goto (4), 3), (19, .iconst 0, 1), (20, .ireturn, 1)]
theorem dt_Ch_hasTree_ok : ∀ e ∈ dt_Ch_hasTree, decode prog_2_method_3_code e.1 = .ok e.2 := by decide +kernel
theorem dc_Ch_hasTree (k : Nat) {pc : Nat} {i : Instr} {n : Nat} (h : dt_Ch_hasTree[k]? = some (pc, i, n)) : decode prog_2_method_3_code pc = .ok (i, n) := rn_dc dt_Ch_hasTree_ok k h
def dt_Ch_emptySum : List (Nat × Instr × Nat) := [(0, .aload_n 0, 1), (1, .getfield 11, 3), (4, .iload_n 1, 1), (5, .iconst 0, 1), (6, .iconst 0, 1), (7, .invokestatic 49, 3), (10, .laload, 1), (11, .lreturn, 1)]
theorem dt_Ch_emptySum_ok : ∀ e ∈ dt_Ch_emptySum, decode prog_2_method_4_code e.1 = .ok e.2 := by decide +kernel
theorem dc_Ch_emptySum (k : Nat) {pc : Nat} {i : Instr} {n : Nat} (h : dt_Ch_emptySum[k]? = some (pc, i, n)) : decode prog_2_method_4_code pc = .ok (i, n) := rn_dc dt_Ch_emptySum_ok k h
def dt_Ch_lengthOf : List (Nat × Instr × Nat) := [(0, .aload_n 0, 1), (1, .getfield 25, 3), (4, .iload_n 1, 1), (5, .iaload, 1), (6, .iconst 4, 1), (7, .iload_n 2, 1), (8, .imul, 1), (9, .ishr, 1), (10, .bipush (15), 2), (12, .iand, 1), (13, .ireturn, 1)]
theorem dt_Ch_lengthOf_ok : ∀ e ∈ dt_Ch_lengthOf, decode prog_2_method_5_code e.1 = .ok e.2 := by decide +kernel
theorem dc_Ch_lengthOf (k : Nat) {pc : Nat} {i : Instr} {n : Nat} (h : dt_Ch_lengthOf[k]? = some (pc, i, n)) : decode prog_2_method_5_code pc = .ok (i, n) := rn_dc dt_Ch_lengthOf_ok k h
def dt_Ch_dropText : List (Nat × Instr × Nat) := [(0, .aload_n 0, 1), (1, .iconst (-1), 1), (2, .putfield 32, 3), (5, .return_, 1)]
theorem dt_Ch_dropText_ok : ∀ e ∈ dt_Ch_dropText, decode prog_2_method_6_code e.1 = .ok e.2 := by decide +kernel
theorem dc_Ch_dropText (k : Nat) {pc : Nat} {i : Instr} {n : Nat} (h : dt_Ch_dropText[k]? = some (pc, i, n)) : decode prog_2_method_6_code pc = .ok (i, n) := rn_dc dt_Ch_dropText_ok k h
def dt_Ch_takeText : List (Nat × Instr × Nat) := [(0, .aload_n 0, 1), (1, .aload_n 1, 1), (2, .getfield 53, 3), (5, .putfield 32, 3), (8, .iconst 0, 1), (9, .istore_n 2, 1), (10, .iload_n 2, 1), (11, .aload_n 0, 1), (12, .getfield 32, 3), (15, .if_icmp .ge (21), 3), (18, .aload_n 0, 1), (19, .getfield 28, 3), (22, .iload_n 2, 1), (23, .aload_n 1, 1), (24, .getfield 58, 3), (27, .iload_n 2, 1), (28, .caload, 1), (29, .castore, 1), (30, .iinc 2 (1), 3), (33, .goto (-23), 3), (36, .return_, 1)]
theorem dt_Ch_takeText_ok : ∀ e ∈ dt_Ch_takeText, decode prog_2_method_7_code e.1 = .ok e.2 := by decide +kernel
theorem dc_Ch_takeText (k : Nat) {pc : Nat} {i : Instr} {n : Nat} (h : dt_Ch_takeText[k]? = some (pc, i, n)) : decode prog_2_method_7_code pc = .ok (i, n) := rn_dc dt_Ch_takeText_ok k h
def dt_Ch_fillText : List (Nat × Instr × Nat) := [(0, .iconst 1, 1), (1, .istore_n 2, 1), (2, .iload_n 2, 1), (3, .aload_n 0, 1), (4, .getfield 32, 3), (7, .if_icmp .gt (36), 3), (10, .iconst 0, 1), (11, .istore_n 3, 1), (12, .iload_n 3, 1), (13, .iload_n 2, 1), (14, .iadd, 1), (15, .aload_n 0, 1), (16, .getfield 32, 3), (19, .if_icmp .gt (18), 3), (22, .aload_n 0, 1), (23, .aload_n 1, 1), (24, .iload_n 3, 1), (25, .iload_n 3, 1), (26, .iload_n 2, 1), (27, .iadd, 1), (28, .invokevirtual 61, 3), (31, .iinc 3 (1), 3), (34, .goto (-22), 3), (37, .iinc 2 (1), 3), (40, .goto (-38), 3), (43, .return_, 1)]
theorem dt_Ch_fillText_ok : ∀ e ∈ dt_Ch_fillText, decode prog_2_method_8_code e.1 = .ok e.2 := by decide +kernel
theorem dc_Ch_fillText (k : Nat) {pc : Nat} {i : Instr} {n : Nat} (h : dt_Ch_fillText[k]? = some (pc, i, n)) : decode prog_2_method_8_code pc = .ok (i, n) := rn_dc dt_Ch_fillText_ok k h
def dt_Ch_fillPart : List (Nat × Instr × Nat) := [(0, .iconst 0, 1), (1, .istore 4, 2), (3, .iload 4, 2), (5, .bipush (6), 2), (7, .if_icmp .ge (35), 3), (10, .aload_n 0, 1), (11, .getfield 11, 3), (14, .iload 4, 2), (16, .iload_n 2, 1), (17, .iload_n 3, 1), (18, .invokestatic 49, 3), (21, .lconst 0, 1), (22, .lastore, 1), (23, .aload_n 0, 1), (24, .getfield 15, 3), (27, .iload 4, 2), (29, .iload_n 2, 1), (30, .iload_n 3, 1), (31, .invokestatic 49, 3), (34, .iconst (-1), 1), (35, .iastore, 1), (36, .iinc 4 (1), 3), (39, .goto (-36), 3), (42, .iconst 0, 1), (43, .istore 4, 2), (45, .iload 4, 2), (47, .aload_n 1, 1), (48, .getfield 65, 3), (51, .if_icmp .ge (53), 3), (54, .iconst 0, 1), (55, .istore 5, 2), (57, .iload 5, 2), (59, .aload_n 1, 1), (60, .getfield 70, 3), (63, .if_icmp .ge (35), 3), (66, .aload_n 1, 1), (67, .getfield 73, 3), (70, .iload 5, 2), (72, .iaload, 1), (73, .aload_n 1, 1), (74, .getfield 76, 3), (77, .iload 4, 2), (79, .iaload, 1), (80, .if_icmp .ne (12), 3), (83, .aload_n 0, 1), (84, .aload_n 1, 1), (85, .iload 5, 2), (87, .iload_n 2, 1), (88, .iload_n 3, 1), (89, .invokevirtual 79, 3), (92, .iinc 5 (1), 3), (95, .goto (-38), 3), (98, .iinc 4 (1), 3), (101, .goto (-56), 3), (104, .return_, 1)]
theorem dt_Ch_fillPart_ok : ∀ e ∈ dt_Ch_fillPart, decode prog_2_method_9_code e.1 = .ok e.2 := by decide +kernel
theorem dc_Ch_fillPart (k : Nat) {pc : Nat} {i : Instr} {n : Nat} (h : dt_Ch_fillPart[k]? = some (pc, i, n)) : decode prog_2_method_9_code pc = .ok (i, n) := rn_dc dt_Ch_fillPart_ok k h
def dt_Ch_addRule : List (Nat × Instr × Nat) := [(0, .aload_n 0, 1), (1, .aload_n 1, 1), (2, .iload_n 2, 1), (3, .iload_n 3, 1), (4, .iload 4, 2), (6, .invokevirtual 83, 3), (9, .aload_n 0, 1), (10, .getfield 43, 3), (13, .iconst 0, 1), (14, .aaload, 1), (15, .iload_n 3, 1), (16, .iaload, 1), (17, .iconst (-1), 1), (18, .if_icmp .ne (4), 3), (21, .return_, 1), (22, .aload_n 1, 1), (23, .getfield 73, 3), (26, .iload_n 2, 1), (27, .iaload, 1), (28, .iload_n 3, 1), (29, .iload 4, 2), (31, .invokestatic 49, 3), (34, .istore 5, 2), (36, .aload_n 0, 1), (37, .getfield 11, 3), (40, .iload 5, 2), (42, .dup2, 1), (43, .laload, 1), (44, .aload_n 1, 1), (45, .getfield 86, 3), (48, .iload_n 2, 1), (49, .laload, 1), (50, .aload_n 0, 1), (51, .getfield 38, 3), (54, .iconst 0, 1), (55, .aaload, 1), (56, .iload_n 3, 1), (57, .laload, 1), (58, .lmul, 1), (59, .ladd, 1), (60, .lastore, 1), (61, .aload_n 1, 1), (62, .getfield 89, 3), (65, .iload_n 2, 1), (66, .iaload, 1), (67, .aload_n 0, 1), (68, .getfield 43, 3), (71, .iconst 0, 1), (72, .aaload, 1), (73, .iload_n 3, 1), (74, .iaload, 1), (75, .iadd, 1), (76, .istore 6, 2), (78, .aload_n 0, 1), (79, .getfield 15, 3), (82, .iload 5, 2), (84, .iaload, 1), (85, .iconst (-1), 1), (86, .if_icmp .eq (15), 3), (89, .iload 6, 2), (91, .aload_n 0, 1), (92, .getfield 15, 3), (95, .iload 5, 2), (97, .iaload, 1), (98, .if_icmp .ge (29), 3), (101, .aload_n 0, 1), (102, .getfield 15, 3), (105, .iload 5, 2), (107, .iload 6, 2), (109, .iastore, 1), (110, .aload_n 0, 1), (111, .getfield 19, 3), (114, .iload 5, 2), (116, .iload_n 2, 1), (117, .iastore, 1), (118, .aload_n 0, 1), (119, .aload_n 1, 1), (120, .iload_n 2, 1), (121, .iload 5, 2), (123, .iload_n 3, 1), (124, .invokevirtual 90, 3), (127, .return_, 1)]
theorem dt_Ch_addRule_ok : ∀ e ∈ dt_Ch_addRule, decode prog_2_method_10_code e.1 = .ok e.2 := by decide +kernel
theorem dc_Ch_addRule (k : Nat) {pc : Nat} {i : Instr} {n : Nat} (h : dt_Ch_addRule[k]? = some (pc, i, n)) : decode prog_2_method_10_code pc = .ok (i, n) := rn_dc dt_Ch_addRule_ok k h
def dt_Ch_matchBody : List (Nat × Instr × Nat) := [(0, .aload_n 1, 1), (1, .getfield 93, 3), (4, .iload_n 2, 1), (5, .iaload, 1), (6, .istore 5, 2), (8, .iload_n 3, 1), (9, .istore 6, 2), (11, .iload 6, 2), (13, .iload 4, 2), (15, .if_icmp .gt (53), 3), (18, .aload_n 0, 1), (19, .getfield 38, 3), (22, .iload 5, 2), (24, .aaload, 1), (25, .iload 6, 2), (27, .iload 6, 2), (29, .iload 4, 2), (31, .if_icmp .ne (7), 3), (34, .lconst 1, 1), (35, .goto (4), 3), (38, .lconst 0, 1), (39, .lastore, 1), (40, .aload_n 0, 1), (41, .getfield 43, 3), (44, .iload 5, 2), (46, .aaload, 1), (47, .iload 6, 2), (49, .iload 6, 2), (51, .iload 4, 2), (53, .if_icmp .ne (7), 3), (56, .iconst 0, 1), (57, .goto (4), 3), (60, .iconst (-1), 1), (61, .iastore, 1), (62, .iinc 6 (1), 3), (65, .goto (-54), 3), (68, .iload 5, 2), (70, .iconst 1, 1), (71, .isub, 1), (72, .istore 6, 2), (74, .iload 6, 2), (76, .ifCond .lt (82), 3), (79, .aload_n 1, 1), (80, .iload_n 2, 1), (81, .iload 6, 2), (83, .invokevirtual 96, 3), (86, .istore 7, 2), (88, .iload 6, 2), (90, .ifCond .ne (7), 3), (93, .iload_n 3, 1), (94, .goto (5), 3), (97, .iload 4, 2), (99, .istore 8, 2), (101, .iload_n 3, 1), (102, .istore 9, 2), (104, .iload 9, 2), (106, .iload 8, 2), (108, .if_icmp .gt (44), 3), (111, .iload 7, 2), (113, .invokestatic 100, 3), (116, .ifCond .eq (18), 3), (119, .aload_n 0, 1), (120, .iload 7, 2), (122, .iload 6, 2), (124, .iload 9, 2), (126, .iload 4, 2), (128, .invokevirtual 104, 3), (131, .goto (15), 3), (134, .aload_n 0, 1), (135, .iload 7, 2), (137, .iload 6, 2), (139, .iload 9, 2), (141, .iload 4, 2), (143, .invokevirtual 108, 3), (146, .iinc 9 (1), 3), (149, .goto (-45), 3), (152, .iinc 6 (-1), 3), (155, .goto (-81), 3), (158, .return_, 1)]
theorem dt_Ch_matchBody_ok : ∀ e ∈ dt_Ch_matchBody, decode prog_2_method_11_code e.1 = .ok e.2 := by decide +kernel
theorem dc_Ch_matchBody (k : Nat) {pc : Nat} {i : Instr} {n : Nat} (h : dt_Ch_matchBody[k]? = some (pc, i, n)) : decode prog_2_method_11_code pc = .ok (i, n) := rn_dc dt_Ch_matchBody_ok k h
def dt_Ch_matchTerminal : List (Nat × Instr × Nat) := [(0, .iload_n 3, 1), (1, .iload 4, 2), (3, .if_icmp .ge (17), 3), (6, .aload_n 0, 1), (7, .getfield 28, 3), (10, .iload_n 3, 1), (11, .caload, 1), (12, .iload_n 1, 1), (13, .if_icmp .ne (7), 3), (16, .iconst 1, 1), (17, .goto (4), 3), (20, .iconst 0, 1), (21, .istore 5, 2), (23, .aload_n 0, 1), (24, .getfield 38, 3), (27, .iload_n 2, 1), (28, .aaload, 1), (29, .iload_n 3, 1), (30, .iload 5, 2), (32, .ifCond .eq (18), 3), (35, .aload_n 0, 1), (36, .getfield 38, 3), (39, .iload_n 2, 1), (40, .iconst 1, 1), (41, .iadd, 1), (42, .aaload, 1), (43, .iload_n 3, 1), (44, .iconst 1, 1), (45, .iadd, 1), (46, .laload, 1), (47, .goto (4), 3), (50, .lconst 0, 1), (51, .lastore, 1), (52, .aload_n 0, 1), (53, .getfield 43, 3), (56, .iload_n 2, 1), (57, .aaload, 1), (58, .iload_n 3, 1), (59, .iload 5, 2), (61, .ifCond .eq (18), 3), (64, .aload_n 0, 1), (65, .getfield 43, 3), (68, .iload_n 2, 1), (69, .iconst 1, 1), (70, .iadd, 1), (71, .aaload, 1), (72, .iload_n 3, 1), (73, .iconst 1, 1), (74, .iadd, 1), (75, .iaload, 1), (76, .goto (4), 3), (79, .iconst (-1), 1), (80, .iastore, 1), (81, .aload_n 0, 1), (82, .getfield 46, 3), (85, .iload_n 2, 1), (86, .aaload, 1), (87, .iload_n 3, 1), (88, .iconst 1, 1), (89, .iastore, 1), (90, .return_, 1)]
theorem dt_Ch_matchTerminal_ok : ∀ e ∈ dt_Ch_matchTerminal, decode prog_2_method_12_code e.1 = .ok e.2 := by decide +kernel
theorem dc_Ch_matchTerminal (k : Nat) {pc : Nat} {i : Instr} {n : Nat} (h : dt_Ch_matchTerminal[k]? = some (pc, i, n)) : decode prog_2_method_12_code pc = .ok (i, n) := rn_dc dt_Ch_matchTerminal_ok k h
def dt_Ch_matchNonterminal : List (Nat × Instr × Nat) := [(0, .lconst 0, 1), (1, .lstore 5, 2), (3, .iconst (-1), 1), (4, .istore 7, 2), (6, .iload_n 3, 1), (7, .istore 8, 2), (9, .iload 8, 2), (11, .iload 4, 2), (13, .if_icmp .gt (118), 3), (16, .iload_n 1, 1), (17, .iload_n 3, 1), (18, .iload 8, 2), (20, .invokestatic 49, 3), (23, .istore 9, 2), (25, .aload_n 0, 1), (26, .getfield 15, 3), (29, .iload 9, 2), (31, .iaload, 1), (32, .iconst (-1), 1), (33, .if_icmp .eq (92), 3), (36, .aload_n 0, 1), (37, .getfield 43, 3), (40, .iload_n 2, 1), (41, .iconst 1, 1), (42, .iadd, 1), (43, .aaload, 1), (44, .iload 8, 2), (46, .iaload, 1), (47, .iconst (-1), 1), (48, .if_icmp .eq (77), 3), (51, .lload 5, 2), (53, .aload_n 0, 1), (54, .getfield 11, 3), (57, .iload 9, 2), (59, .laload, 1), (60, .aload_n 0, 1), (61, .getfield 38, 3), (64, .iload_n 2, 1), (65, .iconst 1, 1), (66, .iadd, 1), (67, .aaload, 1), (68, .iload 8, 2), (70, .laload, 1), (71, .lmul, 1), (72, .ladd, 1), (73, .lstore 5, 2), (75, .aload_n 0, 1), (76, .getfield 15, 3), (79, .iload 9, 2), (81, .iaload, 1), (82, .aload_n 0, 1), (83, .getfield 43, 3), (86, .iload_n 2, 1), (87, .iconst 1, 1), (88, .iadd, 1), (89, .aaload, 1), (90, .iload 8, 2), (92, .iaload, 1), (93, .iadd, 1), (94, .istore 10, 2), (96, .iload 7, 2), (98, .iconst (-1), 1), (99, .if_icmp .eq (10), 3), (102, .iload 10, 2), (104, .iload 7, 2), (106, .if_icmp .ge (19), 3), (109, .iload 10, 2), (111, .istore 7, 2), (113, .aload_n 0, 1), (114, .getfield 46, 3), (117, .iload_n 2, 1), (118, .aaload, 1), (119, .iload_n 3, 1), (120, .iload 8, 2), (122, .iload_n 3, 1), (123, .isub, 1), (124, .iastore, 1), (125, .iinc 8 (1), 3), (128, .goto (-119), 3), (131, .aload_n 0, 1), (132, .getfield 38, 3), (135, .iload_n 2, 1), (136, .aaload, 1), (137, .iload_n 3, 1), (138, .lload 5, 2), (140, .lastore, 1), (141, .aload_n 0, 1), (142, .getfield 43, 3), (145, .iload_n 2, 1), (146, .aaload, 1), (147, .iload_n 3, 1), (148, .iload 7, 2), (150, .iastore, 1), (151, .return_, 1)]
theorem dt_Ch_matchNonterminal_ok : ∀ e ∈ dt_Ch_matchNonterminal, decode prog_2_method_13_code e.1 = .ok e.2 := by decide +kernel
theorem dc_Ch_matchNonterminal (k : Nat) {pc : Nat} {i : Instr} {n : Nat} (h : dt_Ch_matchNonterminal[k]? = some (pc, i, n)) : decode prog_2_method_13_code pc = .ok (i, n) := rn_dc dt_Ch_matchNonterminal_ok k h
def dt_Ch_keepBody : List (Nat × Instr × Nat) := [(0, .iload 4, 2), (2, .istore 5, 2), (4, .iconst 1, 1), (5, .istore 6, 2), (7, .iconst 0, 1), (8, .istore 7, 2), (10, .iconst 0, 1), (11, .istore 8, 2), (13, .iload 8, 2), (15, .aload_n 1, 1), (16, .getfield 93, 3), (19, .iload_n 2, 1), (20, .iaload, 1), (21, .if_icmp .ge (79), 3), (24, .aload_n 0, 1), (25, .getfield 46, 3), (28, .iload 8, 2), (30, .aaload, 1), (31, .iload 5, 2), (33, .iaload, 1), (34, .istore 9, 2), (36, .aload_n 1, 1), (37, .iload_n 2, 1), (38, .iload 8, 2), (40, .invokevirtual 96, 3), (43, .istore 10, 2), (45, .iload 10, 2), (47, .invokestatic 100, 3), (50, .ifCond .eq (25), 3), (53, .iload 6, 2), (55, .aload_n 0, 1), (56, .getfield 22, 3), (59, .iload 10, 2), (61, .iload 5, 2), (63, .iload 5, 2), (65, .iload 9, 2), (67, .iadd, 1), (68, .invokestatic 49, 3), (71, .iaload, 1), (72, .iadd, 1), (73, .istore 6, 2), (75, .iload 7, 2), (77, .iload 9, 2), (79, .iconst 4, 1), (80, .iload 8, 2), (82, .imul, 1), (83, .ishl, 1), (84, .ior, 1), (85, .istore 7, 2), (87, .iload 5, 2), (89, .iload 9, 2), (91, .iadd, 1), (92, .istore 5, 2), (94, .iinc 8 (1), 3), (97, .goto (-84), 3), (100, .aload_n 0, 1), (101, .getfield 22, 3), (104, .iload_n 3, 1), (105, .iload 6, 2), (107, .iastore, 1), (108, .aload_n 0, 1), (109, .getfield 25, 3), (112, .iload_n 3, 1), (113, .iload 7, 2), (115, .iastore, 1), (116, .return_, 1)]
theorem dt_Ch_keepBody_ok : ∀ e ∈ dt_Ch_keepBody, decode prog_2_method_14_code e.1 = .ok e.2 := by decide +kernel
theorem dc_Ch_keepBody (k : Nat) {pc : Nat} {i : Instr} {n : Nat} (h : dt_Ch_keepBody[k]? = some (pc, i, n)) : decode prog_2_method_14_code pc = .ok (i, n) := rn_dc dt_Ch_keepBody_ok k h
def dt_Ut_init : List (Nat × Instr × Nat) := [(0, .aload_n 0, 1), (1, .invokespecial 3, 3), (4, .aload_n 0, 1), (5, .bipush (36), 2), (7, .newarray .long, 2), (9, .putfield 9, 3), (12, .return_, 1)]
theorem dt_Ut_init_ok : ∀ e ∈ dt_Ut_init, decode prog_7_method_1_code e.1 = .ok e.2 := by decide +kernel
theorem dc_Ut_init (k : Nat) {pc : Nat} {i : Instr} {n : Nat} (h : dt_Ut_init[k]? = some (pc, i, n)) : decode prog_7_method_1_code pc = .ok (i, n) := rn_dc dt_Ut_init_ok k h
def dt_Ut_sum : List (Nat × Instr × Nat) := [(0, .aload_n 0, 1), (1, .getfield 9, 3), (4, .iload_n 1, 1), (5, .bipush (6), 2), (7, .imul, 1), (8, .iload_n 2, 1), (9, .iadd, 1), (10, .laload, 1), (11, .lreturn, 1)]
theorem dt_Ut_sum_ok : ∀ e ∈ dt_Ut_sum, decode prog_7_method_2_code e.1 = .ok e.2 := by decide +kernel
theorem dc_Ut_sum (k : Nat) {pc : Nat} {i : Instr} {n : Nat} (h : dt_Ut_sum[k]? = some (pc, i, n)) : decode prog_7_method_2_code pc = .ok (i, n) := rn_dc dt_Ut_sum_ok k h
def dt_Ut_fill : List (Nat × Instr × Nat) := [(0, .iconst 0, 1), (1, .istore_n 3, 1), (2, .iload_n 3, 1), (3, .aload_n 1, 1), (4, .getfield 15, 3), (7, .if_icmp .ge (96), 3), (10, .aload_n 1, 1), (11, .getfield 21, 3), (14, .iload_n 3, 1), (15, .iaload, 1), (16, .istore 4, 2), (18, .iconst 0, 1), (19, .istore 5, 2), (21, .iload 5, 2), (23, .bipush (6), 2), (25, .if_icmp .ge (34), 3), (28, .aload_n 0, 1), (29, .getfield 9, 3), (32, .iload 4, 2), (34, .bipush (6), 2), (36, .imul, 1), (37, .iload 5, 2), (39, .iadd, 1), (40, .iload 4, 2), (42, .iload 5, 2), (44, .if_icmp .ne (7), 3), (47, .lconst 1, 1), (48, .goto (4), 3), (51, .lconst 0, 1), (52, .lastore, 1), (53, .iinc 5 (1), 3), (56, .goto (-35), 3), (59, .iconst 0, 1), (60, .istore 5, 2), (62, .iload 5, 2), (64, .aload_n 1, 1), (65, .getfield 25, 3), (68, .if_icmp .ge (29), 3), (71, .aload_n 1, 1), (72, .getfield 28, 3), (75, .iload 5, 2), (77, .iaload, 1), (78, .iload 4, 2), (80, .if_icmp .ne (11), 3), (83, .aload_n 0, 1), (84, .aload_n 1, 1), (85, .aload_n 2, 1), (86, .iload 5, 2), (88, .invokevirtual 31, 3), (91, .iinc 5 (1), 3), (94, .goto (-32), 3), (97, .iinc 3 (1), 3), (100, .goto (-98), 3), (103, .return_, 1)]
theorem dt_Ut_fill_ok : ∀ e ∈ dt_Ut_fill, decode prog_7_method_3_code e.1 = .ok e.2 := by decide +kernel
theorem dc_Ut_fill (k : Nat) {pc : Nat} {i : Instr} {n : Nat} (h : dt_Ut_fill[k]? = some (pc, i, n)) : decode prog_7_method_3_code pc = .ok (i, n) := rn_dc dt_Ut_fill_ok k h
def dt_Ut_addRule : List (Nat × Instr × Nat) := [(0, .aload_n 1, 1), (1, .getfield 28, 3), (4, .iload_n 3, 1), (5, .iaload, 1), (6, .istore 4, 2), (8, .iconst 0, 1), (9, .istore 5, 2), (11, .iload 5, 2), (13, .aload_n 1, 1), (14, .getfield 35, 3), (17, .iload_n 3, 1), (18, .iaload, 1), (19, .if_icmp .ge (86), 3), (22, .aload_n 1, 1), (23, .iload_n 3, 1), (24, .iload 5, 2), (26, .invokevirtual 38, 3), (29, .istore 6, 2), (31, .iload 6, 2), (33, .invokestatic 42, 3), (36, .ifCond .eq (63), 3), (39, .aload_n 1, 1), (40, .getfield 46, 3), (43, .iload_n 3, 1), (44, .laload, 1), (45, .aload_n 1, 1), (46, .aload_n 2, 1), (47, .iload_n 3, 1), (48, .iload 5, 2), (50, .invokestatic 49, 3), (53, .lmul, 1), (54, .lstore 7, 2), (56, .iconst 0, 1), (57, .istore 9, 2), (59, .iload 9, 2), (61, .bipush (6), 2), (63, .if_icmp .ge (36), 3), (66, .aload_n 0, 1), (67, .getfield 9, 3), (70, .iload 4, 2), (72, .bipush (6), 2), (74, .imul, 1), (75, .iload 9, 2), (77, .iadd, 1), (78, .dup2, 1), (79, .laload, 1), (80, .lload 7, 2), (82, .aload_n 0, 1), (83, .iload 6, 2), (85, .iload 9, 2), (87, .invokevirtual 53, 3), (90, .lmul, 1), (91, .ladd, 1), (92, .lastore, 1), (93, .iinc 9 (1), 3), (96, .goto (-37), 3), (99, .iinc 5 (1), 3), (102, .goto (-91), 3), (105, .return_, 1)]
theorem dt_Ut_addRule_ok : ∀ e ∈ dt_Ut_addRule, decode prog_7_method_4_code e.1 = .ok e.2 := by decide +kernel
theorem dc_Ut_addRule (k : Nat) {pc : Nat} {i : Instr} {n : Nat} (h : dt_Ut_addRule[k]? = some (pc, i, n)) : decode prog_7_method_4_code pc = .ok (i, n) := rn_dc dt_Ut_addRule_ok k h
def dt_Ut_emptyProduct : List (Nat × Instr × Nat) := [(0, .lconst 1, 1), (1, .lstore 4, 2), (3, .iconst 0, 1), (4, .istore 6, 2), (6, .iload 6, 2), (8, .aload_n 0, 1), (9, .getfield 35, 3), (12, .iload_n 2, 1), (13, .iaload, 1), (14, .if_icmp .ge (47), 3), (17, .aload_n 0, 1), (18, .iload_n 2, 1), (19, .iload 6, 2), (21, .invokevirtual 38, 3), (24, .istore 7, 2), (26, .iload 6, 2), (28, .iload_n 3, 1), (29, .if_icmp .eq (26), 3), (32, .lload 4, 2), (34, .iload 7, 2), (36, .invokestatic 42, 3), (39, .ifCond .eq (12), 3), (42, .aload_n 1, 1), (43, .iload 7, 2), (45, .invokevirtual 57, 3), (48, .goto (4), 3), (51, .lconst 0, 1), (52, .lmul, 1), (53, .lstore 4, 2), (55, .iinc 6 (1), 3), (58, .goto (-52), 3), (61, .lload 4, 2), (63, .lreturn, 1)]
theorem dt_Ut_emptyProduct_ok : ∀ e ∈ dt_Ut_emptyProduct, decode prog_7_method_5_code e.1 = .ok e.2 := by decide +kernel
theorem dc_Ut_emptyProduct (k : Nat) {pc : Nat} {i : Instr} {n : Nat} (h : dt_Ut_emptyProduct[k]? = some (pc, i, n)) : decode prog_7_method_5_code pc = .ok (i, n) := rn_dc dt_Ut_emptyProduct_ok k h
def dt_Tl_init : List (Nat × Instr × Nat) := [(0, .aload_n 0, 1), (1, .invokespecial 3, 3), (4, .aload_n 0, 1), (5, .bipush (100), 2), (7, .newarray .int, 2), (9, .putfield 9, 3), (12, .aload_n 0, 1), (13, .bipush (100), 2), (15, .newarray .int, 2), (17, .putfield 15, 3), (20, .aload_n 0, 1), (21, .bipush (100), 2), (23, .newarray .int, 2), (25, .putfield 18, 3), (28, .aload_n 0, 1), (29, .bipush (100), 2), (31, .newarray .int, 2), (33, .putfield 21, 3), (36, .aload_n 0, 1), (37, .iconst 0, 1), (38, .putfield 24, 3), (41, .return_, 1)]
theorem dt_Tl_init_ok : ∀ e ∈ dt_Tl_init, decode prog_6_method_1_code e.1 = .ok e.2 := by decide +kernel
theorem dc_Tl_init (k : Nat) {pc : Nat} {i : Instr} {n : Nat} (h : dt_Tl_init[k]? = some (pc, i, n)) : decode prog_6_method_1_code pc = .ok (i, n) := rn_dc dt_Tl_init_ok k h
def dt_Tl_clear : List (Nat × Instr × Nat) := [(0, .aload_n 0, 1), (1, .iconst 0, 1), (2, .putfield 24, 3), (5, .return_, 1)]
theorem dt_Tl_clear_ok : ∀ e ∈ dt_Tl_clear, decode prog_6_method_2_code e.1 = .ok e.2 := by decide +kernel
theorem dc_Tl_clear (k : Nat) {pc : Nat} {i : Instr} {n : Nat} (h : dt_Tl_clear[k]? = some (pc, i, n)) : decode prog_6_method_2_code pc = .ok (i, n) := rn_dc dt_Tl_clear_ok k h
def dt_Tl_shownCount : List (Nat × Instr × Nat) := [(0, .aload_n 0, 1), (1, .getfield 24, 3), (4, .bipush (100), 2), (6, .invokestatic 28, 3), (9, .ireturn, 1)]
theorem dt_Tl_shownCount_ok : ∀ e ∈ dt_Tl_shownCount, decode prog_6_method_3_code e.1 = .ok e.2 := by decide +kernel
theorem dc_Tl_shownCount (k : Nat) {pc : Nat} {i : Instr} {n : Nat} (h : dt_Tl_shownCount[k]? = some (pc, i, n)) : decode prog_6_method_3_code pc = .ok (i, n) := rn_dc dt_Tl_shownCount_ok k h
def dt_Tl_list : List (Nat × Instr × Nat) := [(0, .aload_n 0, 1), (1, .aload_n 2, 1), (2, .getfield 34, 3), (5, .iload_n 3, 1), (6, .iload 4, 2), (8, .iload 5, 2), (10, .invokestatic 39, 3), (13, .iaload, 1), (14, .putfield 24, 3), (17, .aload_n 0, 1), (18, .iconst 0, 1), (19, .iload_n 3, 1), (20, .iload 4, 2), (22, .iload 5, 2), (24, .invokevirtual 43, 3), (27, .aload_n 0, 1), (28, .invokevirtual 47, 3), (31, .istore 6, 2), (33, .iconst 0, 1), (34, .istore 7, 2), (36, .iload 7, 2), (38, .iload 6, 2), (40, .if_icmp .ge (17), 3), (43, .aload_n 0, 1), (44, .aload_n 1, 1), (45, .aload_n 2, 1), (46, .iload 7, 2), (48, .invokevirtual 51, 3), (51, .iinc 7 (1), 3), (54, .goto (-18), 3), (57, .return_, 1)]
theorem dt_Tl_list_ok : ∀ e ∈ dt_Tl_list, decode prog_6_method_4_code e.1 = .ok e.2 := by decide +kernel
theorem dc_Tl_list (k : Nat) {pc : Nat} {i : Instr} {n : Nat} (h : dt_Tl_list[k]? = some (pc, i, n)) : decode prog_6_method_4_code pc = .ok (i, n) := rn_dc dt_Tl_list_ok k h
def dt_Tl_keepPlace : List (Nat × Instr × Nat) := [(0, .aload_n 0, 1), (1, .getfield 21, 3), (4, .iload_n 1, 1), (5, .iload_n 2, 1), (6, .iastore, 1), (7, .aload_n 0, 1), (8, .getfield 15, 3), (11, .iload_n 1, 1), (12, .iload_n 3, 1), (13, .iastore, 1), (14, .aload_n 0, 1), (15, .getfield 18, 3), (18, .iload_n 1, 1), (19, .iload 4, 2), (21, .iastore, 1), (22, .return_, 1)]
theorem dt_Tl_keepPlace_ok : ∀ e ∈ dt_Tl_keepPlace, decode prog_6_method_5_code e.1 = .ok e.2 := by decide +kernel
theorem dc_Tl_keepPlace (k : Nat) {pc : Nat} {i : Instr} {n : Nat} (h : dt_Tl_keepPlace[k]? = some (pc, i, n)) : decode prog_6_method_5_code pc = .ok (i, n) := rn_dc dt_Tl_keepPlace_ok k h
def dt_Tl_expand : List (Nat × Instr × Nat) := [(0, .aload_n 0, 1), (1, .getfield 21, 3), (4, .iload_n 3, 1), (5, .iaload, 1), (6, .aload_n 0, 1), (7, .getfield 15, 3), (10, .iload_n 3, 1), (11, .iaload, 1), (12, .aload_n 0, 1), (13, .getfield 18, 3), (16, .iload_n 3, 1), (17, .iaload, 1), (18, .invokestatic 39, 3), (21, .istore 4, 2), (23, .aload_n 2, 1), (24, .getfield 55, 3), (27, .iload 4, 2), (29, .iaload, 1), (30, .istore 5, 2), (32, .aload_n 0, 1), (33, .getfield 9, 3), (36, .iload_n 3, 1), (37, .iload 5, 2), (39, .iastore, 1), (40, .iload_n 3, 1), (41, .iconst 1, 1), (42, .iadd, 1), (43, .istore 6, 2), (45, .aload_n 0, 1), (46, .getfield 15, 3), (49, .iload_n 3, 1), (50, .iaload, 1), (51, .istore 7, 2), (53, .iconst 0, 1), (54, .istore 8, 2), (56, .iload 8, 2), (58, .aload_n 1, 1), (59, .getfield 56, 3), (62, .iload 5, 2), (64, .iaload, 1), (65, .if_icmp .ge (82), 3), (68, .aload_n 1, 1), (69, .iload 5, 2), (71, .iload 8, 2), (73, .invokevirtual 61, 3), (76, .istore 9, 2), (78, .iload 7, 2), (80, .aload_n 2, 1), (81, .iload 4, 2), (83, .iload 8, 2), (85, .invokevirtual 64, 3), (88, .iadd, 1), (89, .istore 10, 2), (91, .iload 9, 2), (93, .invokestatic 67, 3), (96, .ifCond .eq (41), 3), (99, .iload 6, 2), (101, .bipush (100), 2), (103, .if_icmp .ge (15), 3), (106, .aload_n 0, 1), (107, .iload 6, 2), (109, .iload 9, 2), (111, .iload 7, 2), (113, .iload 10, 2), (115, .invokevirtual 43, 3), (118, .iload 6, 2), (120, .aload_n 2, 1), (121, .getfield 34, 3), (124, .iload 9, 2), (126, .iload 7, 2), (128, .iload 10, 2), (130, .invokestatic 39, 3), (133, .iaload, 1), (134, .iadd, 1), (135, .istore 6, 2), (137, .iload 10, 2), (139, .istore 7, 2), (141, .iinc 8 (1), 3), (144, .goto (-88), 3), (147, .return_, 1)]
theorem dt_Tl_expand_ok : ∀ e ∈ dt_Tl_expand, decode prog_6_method_6_code e.1 = .ok e.2 := by decide +kernel
theorem dc_Tl_expand (k : Nat) {pc : Nat} {i : Instr} {n : Nat} (h : dt_Tl_expand[k]? = some (pc, i, n)) : decode prog_6_method_6_code pc = .ok (i, n) := rn_dc dt_Tl_expand_ok k h
def dt_Gr_init : List (Nat × Instr × Nat) := [(0, .aload_n 0, 1), (1, .invokespecial 3, 3), (4, .aload_n 0, 1), (5, .bipush (12), 2), (7, .newarray .int, 2), (9, .putfield 9, 3), (12, .aload_n 0, 1), (13, .bipush (48), 2), (15, .newarray .int, 2), (17, .putfield 15, 3), (20, .aload_n 0, 1), (21, .bipush (12), 2), (23, .newarray .int, 2), (25, .putfield 18, 3), (28, .aload_n 0, 1), (29, .bipush (12), 2), (31, .newarray .long, 2), (33, .putfield 21, 3), (36, .aload_n 0, 1), (37, .bipush (12), 2), (39, .newarray .int, 2), (41, .putfield 25, 3), (44, .aload_n 0, 1), (45, .bipush (6), 2), (47, .newarray .int, 2), (49, .putfield 28, 3), (52, .aload_n 0, 1), (53, .bipush (6), 2), (55, .newarray .int, 2), (57, .putfield 31, 3), (60, .aload_n 0, 1), (61, .iconst 0, 1), (62, .putfield 34, 3), (65, .aload_n 0, 1), (66, .iconst 0, 1), (67, .putfield 38, 3), (70, .aload_n 0, 1), (71, .bipush (6), 2), (73, .newarray .int, 2), (75, .putfield 41, 3), (78, .return_, 1)]
theorem dt_Gr_init_ok : ∀ e ∈ dt_Gr_init, decode prog_4_method_1_code e.1 = .ok e.2 := by decide +kernel
theorem dc_Gr_init (k : Nat) {pc : Nat} {i : Instr} {n : Nat} (h : dt_Gr_init[k]? = some (pc, i, n)) : decode prog_4_method_1_code pc = .ok (i, n) := rn_dc dt_Gr_init_ok k h
def dt_Gr_clear : List (Nat × Instr × Nat) := [(0, .aload_n 0, 1), (1, .iconst 0, 1), (2, .putfield 34, 3), (5, .aload_n 0, 1), (6, .iconst 0, 1), (7, .putfield 38, 3), (10, .return_, 1)]
theorem dt_Gr_clear_ok : ∀ e ∈ dt_Gr_clear, decode prog_4_method_2_code e.1 = .ok e.2 := by decide +kernel
theorem dc_Gr_clear (k : Nat) {pc : Nat} {i : Instr} {n : Nat} (h : dt_Gr_clear[k]? = some (pc, i, n)) : decode prog_4_method_2_code pc = .ok (i, n) := rn_dc dt_Gr_clear_ok k h
def dt_Gr_symbol : List (Nat × Instr × Nat) := [(0, .aload_n 0, 1), (1, .getfield 15, 3), (4, .iload_n 1, 1), (5, .iconst 4, 1), (6, .imul, 1), (7, .iload_n 2, 1), (8, .iadd, 1), (9, .iaload, 1), (10, .ireturn, 1)]
theorem dt_Gr_symbol_ok : ∀ e ∈ dt_Gr_symbol, decode prog_4_method_3_code e.1 = .ok e.2 := by decide +kernel
theorem dc_Gr_symbol (k : Nat) {pc : Nat} {i : Instr} {n : Nat} (h : dt_Gr_symbol[k]? = some (pc, i, n)) : decode prog_4_method_3_code pc = .ok (i, n) := rn_dc dt_Gr_symbol_ok k h
def dt_Gr_isNonterminal : List (Nat × Instr × Nat) := [(0, .iload_n 0, 1), (1, .bipush (6), 2), (3, .if_icmp .ge (7), 3), (6, .iconst 1, 1), (7, .goto (4), 3), (10, .iconst 0, 1), (11, .ireturn, 1)]
theorem dt_Gr_isNonterminal_ok : ∀ e ∈ dt_Gr_isNonterminal, decode prog_4_method_4_code e.1 = .ok e.2 := by decide +kernel
theorem dc_Gr_isNonterminal (k : Nat) {pc : Nat} {i : Instr} {n : Nat} (h : dt_Gr_isNonterminal[k]? = some (pc, i, n)) : decode prog_4_method_4_code pc = .ok (i, n) := rn_dc dt_Gr_isNonterminal_ok k h
def dt_Gr_nonterminalOf : List (Nat × Instr × Nat) := [(0, .iconst 0, 1), (1, .istore_n 2, 1), (2, .iload_n 2, 1), (3, .aload_n 0, 1), (4, .getfield 38, 3), (7, .if_icmp .ge (21), 3), (10, .aload_n 0, 1), (11, .getfield 28, 3), (14, .iload_n 2, 1), (15, .iaload, 1), (16, .iload_n 1, 1), (17, .if_icmp .ne (5), 3), (20, .iload_n 2, 1), (21, .ireturn, 1), (22, .iinc 2 (1), 3), (25, .goto (-23), 3), (28, .aload_n 0, 1), (29, .getfield 38, 3), (32, .bipush (6), 2), (34, .if_icmp .ne (5), 3), (37, .iconst (-1), 1), (38, .ireturn, 1), (39, .aload_n 0, 1), (40, .getfield 28, 3), (43, .aload_n 0, 1), (44, .getfield 38, 3), (47, .iload_n 1, 1), (48, .iastore, 1), (49, .aload_n 0, 1), (50, .dup, 1), (51, .getfield 38, 3), (54, .iconst 1, 1), (55, .iadd, 1), (56, .putfield 38, 3), (59, .aload_n 0, 1), (60, .getfield 38, 3), (63, .iconst 1, 1), (64, .isub, 1), (65, .ireturn, 1)]
theorem dt_Gr_nonterminalOf_ok : ∀ e ∈ dt_Gr_nonterminalOf, decode prog_4_method_5_code e.1 = .ok e.2 := by decide +kernel
theorem dc_Gr_nonterminalOf (k : Nat) {pc : Nat} {i : Instr} {n : Nat} (h : dt_Gr_nonterminalOf[k]? = some (pc, i, n)) : decode prog_4_method_5_code pc = .ok (i, n) := rn_dc dt_Gr_nonterminalOf_ok k h
def dt_Gr_findOrder : List (Nat × Instr × Nat) := [(0, .aload_n 0, 1), (1, .aload_n 0, 1), (2, .invokevirtual 44, 3), (5, .invokevirtual 48, 3), (8, .iconst 0, 1), (9, .istore_n 1, 1), (10, .iload_n 1, 1), (11, .aload_n 0, 1), (12, .getfield 38, 3), (15, .if_icmp .ge (24), 3), (18, .aload_n 0, 1), (19, .getfield 41, 3), (22, .iload_n 1, 1), (23, .iaload, 1), (24, .iload_n 1, 1), (25, .invokestatic 52, 3), (28, .ifCond .eq (5), 3), (31, .iconst 0, 1), (32, .ireturn, 1), (33, .iinc 1 (1), 3), (36, .goto (-26), 3), (39, .iconst 0, 1), (40, .istore_n 1, 1), (41, .iconst 0, 1), (42, .istore_n 2, 1), (43, .iload_n 2, 1), (44, .aload_n 0, 1), (45, .getfield 38, 3), (48, .if_icmp .ge (48), 3), (51, .iconst 0, 1), (52, .istore_n 3, 1), (53, .iload_n 3, 1), (54, .aload_n 0, 1), (55, .getfield 38, 3), (58, .if_icmp .ge (32), 3), (61, .aload_n 0, 1), (62, .getfield 41, 3), (65, .iload_n 3, 1), (66, .iaload, 1), (67, .invokestatic 56, 3), (70, .iload_n 2, 1), (71, .if_icmp .ne (13), 3), (74, .aload_n 0, 1), (75, .getfield 31, 3), (78, .iload_n 1, 1), (79, .iload_n 3, 1), (80, .iastore, 1), (81, .iinc 1 (1), 3), (84, .iinc 3 (1), 3), (87, .goto (-34), 3), (90, .iinc 2 (1), 3), (93, .goto (-50), 3), (96, .iconst 1, 1), (97, .ireturn, 1)]
theorem dt_Gr_findOrder_ok : ∀ e ∈ dt_Gr_findOrder, decode prog_4_method_6_code e.1 = .ok e.2 := by decide +kernel
theorem dc_Gr_findOrder (k : Nat) {pc : Nat} {i : Instr} {n : Nat} (h : dt_Gr_findOrder[k]? = some (pc, i, n)) : decode prog_4_method_6_code pc = .ok (i, n) := rn_dc dt_Gr_findOrder_ok k h
def dt_Gr_hasBit : List (Nat × Instr × Nat) := [(0, .iload_n 0, 1), (1, .iload_n 1, 1), (2, .ishr, 1), (3, .iconst 1, 1), (4, .iand, 1), (5, .ifCond .eq (7), 3), (8, .iconst 1, 1), (9, .goto (4), 3), (12, .iconst 0, 1), (13, .ireturn, 1)]
theorem dt_Gr_hasBit_ok : ∀ e ∈ dt_Gr_hasBit, decode prog_4_method_7_code e.1 = .ok e.2 := by decide +kernel
theorem dc_Gr_hasBit (k : Nat) {pc : Nat} {i : Instr} {n : Nat} (h : dt_Gr_hasBit[k]? = some (pc, i, n)) : decode prog_4_method_7_code pc = .ok (i, n) := rn_dc dt_Gr_hasBit_ok k h
def dt_Gr_emptyable : List (Nat × Instr × Nat) := [(0, .iconst 0, 1), (1, .istore_n 1, 1), (2, .iconst 0, 1), (3, .istore_n 2, 1), (4, .iload_n 2, 1), (5, .aload_n 0, 1), (6, .getfield 38, 3), (9, .if_icmp .ge (46), 3), (12, .iconst 0, 1), (13, .istore_n 3, 1), (14, .iload_n 3, 1), (15, .aload_n 0, 1), (16, .getfield 34, 3), (19, .if_icmp .ge (30), 3), (22, .aload_n 0, 1), (23, .iload_n 3, 1), (24, .iconst (-1), 1), (25, .iload_n 1, 1), (26, .invokevirtual 62, 3), (29, .ifCond .eq (14), 3), (32, .iload_n 1, 1), (33, .iconst 1, 1), (34, .aload_n 0, 1), (35, .getfield 9, 3), (38, .iload_n 3, 1), (39, .iaload, 1), (40, .ishl, 1), (41, .ior, 1), (42, .istore_n 1, 1), (43, .iinc 3 (1), 3), (46, .goto (-32), 3), (49, .iinc 2 (1), 3), (52, .goto (-48), 3), (55, .iload_n 1, 1), (56, .ireturn, 1)]
theorem dt_Gr_emptyable_ok : ∀ e ∈ dt_Gr_emptyable, decode prog_4_method_8_code e.1 = .ok e.2 := by decide +kernel
theorem dc_Gr_emptyable (k : Nat) {pc : Nat} {i : Instr} {n : Nat} (h : dt_Gr_emptyable[k]? = some (pc, i, n)) : decode prog_4_method_8_code pc = .ok (i, n) := rn_dc dt_Gr_emptyable_ok k h
def dt_Gr_vanishes : List (Nat × Instr × Nat) := [(0, .iconst 0, 1), (1, .istore 4, 2), (3, .iload 4, 2), (5, .aload_n 0, 1), (6, .getfield 18, 3), (9, .iload_n 1, 1), (10, .iaload, 1), (11, .if_icmp .ge (43), 3), (14, .aload_n 0, 1), (15, .iload_n 1, 1), (16, .iload 4, 2), (18, .invokevirtual 66, 3), (21, .istore 5, 2), (23, .iload 4, 2), (25, .iload_n 2, 1), (26, .if_icmp .eq (22), 3), (29, .iload 5, 2), (31, .invokestatic 70, 3), (34, .ifCond .eq (12), 3), (37, .iload_n 3, 1), (38, .iload 5, 2), (40, .invokestatic 52, 3), (43, .ifCond .ne (5), 3), (46, .iconst 0, 1), (47, .ireturn, 1), (48, .iinc 4 (1), 3), (51, .goto (-48), 3), (54, .iconst 1, 1), (55, .ireturn, 1)]
theorem dt_Gr_vanishes_ok : ∀ e ∈ dt_Gr_vanishes, decode prog_4_method_9_code e.1 = .ok e.2 := by decide +kernel
theorem dc_Gr_vanishes (k : Nat) {pc : Nat} {i : Instr} {n : Nat} (h : dt_Gr_vanishes[k]? = some (pc, i, n)) : decode prog_4_method_9_code pc = .ok (i, n) := rn_dc dt_Gr_vanishes_ok k h
def dt_Gr_findReached : List (Nat × Instr × Nat) := [(0, .iconst 0, 1), (1, .istore_n 2, 1), (2, .iload_n 2, 1), (3, .aload_n 0, 1), (4, .getfield 38, 3), (7, .if_icmp .ge (16), 3), (10, .aload_n 0, 1), (11, .getfield 41, 3), (14, .iload_n 2, 1), (15, .iconst 0, 1), (16, .iastore, 1), (17, .iinc 2 (1), 3), (20, .goto (-18), 3), (23, .iconst 0, 1), (24, .istore_n 2, 1), (25, .iload_n 2, 1), (26, .aload_n 0, 1), (27, .getfield 34, 3), (30, .if_icmp .ge (71), 3), (33, .iconst 0, 1), (34, .istore_n 3, 1), (35, .iload_n 3, 1), (36, .aload_n 0, 1), (37, .getfield 18, 3), (40, .iload_n 2, 1), (41, .iaload, 1), (42, .if_icmp .ge (53), 3), (45, .aload_n 0, 1), (46, .iload_n 2, 1), (47, .iload_n 3, 1), (48, .invokevirtual 66, 3), (51, .istore 4, 2), (53, .iload 4, 2), (55, .invokestatic 70, 3), (58, .ifCond .eq (31), 3), (61, .aload_n 0, 1), (62, .iload_n 2, 1), (63, .iload_n 3, 1), (64, .iload_n 1, 1), (65, .invokevirtual 62, 3), (68, .ifCond .eq (21), 3), (71, .aload_n 0, 1), (72, .getfield 41, 3), (75, .aload_n 0, 1), (76, .getfield 9, 3), (79, .iload_n 2, 1), (80, .iaload, 1), (81, .dup2, 1), (82, .iaload, 1), (83, .iconst 1, 1), (84, .iload 4, 2), (86, .ishl, 1), (87, .ior, 1), (88, .iastore, 1), (89, .iinc 3 (1), 3), (92, .goto (-57), 3), (95, .iinc 2 (1), 3), (98, .goto (-73), 3), (101, .aload_n 0, 1), (102, .invokevirtual 74, 3), (105, .return_, 1)]
theorem dt_Gr_findReached_ok : ∀ e ∈ dt_Gr_findReached, decode prog_4_method_10_code e.1 = .ok e.2 := by decide +kernel
theorem dc_Gr_findReached (k : Nat) {pc : Nat} {i : Instr} {n : Nat} (h : dt_Gr_findReached[k]? = some (pc, i, n)) : decode prog_4_method_10_code pc = .ok (i, n) := rn_dc dt_Gr_findReached_ok k h
def dt_Gr_closeReached : List (Nat × Instr × Nat) := [(0, .iconst 0, 1), (1, .istore_n 1, 1), (2, .iload_n 1, 1), (3, .aload_n 0, 1), (4, .getfield 38, 3), (7, .if_icmp .ge (53), 3), (10, .iconst 0, 1), (11, .istore_n 2, 1), (12, .iload_n 2, 1), (13, .aload_n 0, 1), (14, .getfield 38, 3), (17, .if_icmp .ge (37), 3), (20, .aload_n 0, 1), (21, .getfield 41, 3), (24, .iload_n 2, 1), (25, .iaload, 1), (26, .iload_n 1, 1), (27, .invokestatic 52, 3), (30, .ifCond .eq (18), 3), (33, .aload_n 0, 1), (34, .getfield 41, 3), (37, .iload_n 2, 1), (38, .dup2, 1), (39, .iaload, 1), (40, .aload_n 0, 1), (41, .getfield 41, 3), (44, .iload_n 1, 1), (45, .iaload, 1), (46, .ior, 1), (47, .iastore, 1), (48, .iinc 2 (1), 3), (51, .goto (-39), 3), (54, .iinc 1 (1), 3), (57, .goto (-55), 3), (60, .return_, 1)]
theorem dt_Gr_closeReached_ok : ∀ e ∈ dt_Gr_closeReached, decode prog_4_method_11_code e.1 = .ok e.2 := by decide +kernel
theorem dc_Gr_closeReached (k : Nat) {pc : Nat} {i : Instr} {n : Nat} (h : dt_Gr_closeReached[k]? = some (pc, i, n)) : decode prog_4_method_11_code pc = .ok (i, n) := rn_dc dt_Gr_closeReached_ok k h
def dt_Rd_init : List (Nat × Instr × Nat) := [(0, .aload_n 0, 1), (1, .invokespecial 3, 3), (4, .aload_n 0, 1), (5, .aload_n 1, 1), (6, .putfield 9, 3), (9, .aload_n 0, 1), (10, .aload_n 2, 1), (11, .putfield 15, 3), (14, .aload_n 0, 1), (15, .iconst 0, 1), (16, .putfield 19, 3), (19, .aload_n 0, 1), (20, .iconst (-1), 1), (21, .putfield 23, 3), (24, .return_, 1)]
theorem dt_Rd_init_ok : ∀ e ∈ dt_Rd_init, decode prog_5_method_1_code e.1 = .ok e.2 := by decide +kernel
theorem dc_Rd_init (k : Nat) {pc : Nat} {i : Instr} {n : Nat} (h : dt_Rd_init[k]? = some (pc, i, n)) : decode prog_5_method_1_code pc = .ok (i, n) := rn_dc dt_Rd_init_ok k h
def dt_Rd_firstWrongLine : List (Nat × Instr × Nat) := [(0, .aload_n 0, 1), (1, .getfield 15, 3), (4, .invokevirtual 26, 3), (7, .aload_n 0, 1), (8, .getfield 9, 3), (11, .invokevirtual 31, 3), (14, .istore_n 1, 1), (15, .iconst 1, 1), (16, .istore_n 2, 1), (17, .iload_n 2, 1), (18, .iload_n 1, 1), (19, .if_icmp .gt (50), 3), (22, .aload_n 0, 1), (23, .aload_n 0, 1), (24, .getfield 23, 3), (27, .iconst 1, 1), (28, .iadd, 1), (29, .putfield 19, 3), (32, .aload_n 0, 1), (33, .aload_n 0, 1), (34, .getfield 9, 3), (37, .aload_n 0, 1), (38, .getfield 19, 3), (41, .invokevirtual 37, 3), (44, .putfield 23, 3), (47, .aload_n 0, 1), (48, .invokevirtual 41, 3), (51, .ifCond .ne (12), 3), (54, .aload_n 0, 1), (55, .invokevirtual 45, 3), (58, .ifCond .ne (5), 3), (61, .iload_n 2, 1), (62, .ireturn, 1), (63, .iinc 2 (1), 3), (66, .goto (-49), 3), (69, .aload_n 0, 1), (70, .getfield 15, 3), (73, .getfield 48, 3), (76, .ifCond .ne (9), 3), (79, .iload_n 1, 1), (80, .iconst 1, 1), (81, .iadd, 1), (82, .goto (4), 3), (85, .iconst 0, 1), (86, .ireturn, 1)]
theorem dt_Rd_firstWrongLine_ok : ∀ e ∈ dt_Rd_firstWrongLine, decode prog_5_method_2_code e.1 = .ok e.2 := by decide +kernel
theorem dc_Rd_firstWrongLine (k : Nat) {pc : Nat} {i : Instr} {n : Nat} (h : dt_Rd_firstWrongLine[k]? = some (pc, i, n)) : decode prog_5_method_2_code pc = .ok (i, n) := rn_dc dt_Rd_firstWrongLine_ok k h
def dt_Rd_isLeftOut : List (Nat × Instr × Nat) := [(0, .aload_n 0, 1), (1, .getfield 19, 3), (4, .aload_n 0, 1), (5, .getfield 23, 3), (8, .if_icmp .eq (12), 3), (11, .aload_n 0, 1), (12, .bipush (35), 2), (14, .invokevirtual 51, 3), (17, .ifCond .eq (7), 3), (20, .iconst 1, 1), (21, .goto (4), 3), (24, .iconst 0, 1), (25, .ireturn, 1)]
theorem dt_Rd_isLeftOut_ok : ∀ e ∈ dt_Rd_isLeftOut, decode prog_5_method_3_code e.1 = .ok e.2 := by decide +kernel
theorem dc_Rd_isLeftOut (k : Nat) {pc : Nat} {i : Instr} {n : Nat} (h : dt_Rd_isLeftOut[k]? = some (pc, i, n)) : decode prog_5_method_3_code pc = .ok (i, n) := rn_dc dt_Rd_isLeftOut_ok k h
def dt_Rd_readRule : List (Nat × Instr × Nat) := [(0, .aload_n 0, 1), (1, .getfield 15, 3), (4, .getfield 48, 3), (7, .bipush (12), 2), (9, .if_icmp .ne (5), 3), (12, .iconst 0, 1), (13, .ireturn, 1), (14, .aload_n 0, 1), (15, .getfield 15, 3), (18, .getfield 48, 3), (21, .istore_n 1, 1), (22, .aload_n 0, 1), (23, .iload_n 1, 1), (24, .invokevirtual 55, 3), (27, .ifCond .eq (69), 3), (30, .aload_n 0, 1), (31, .bipush (61), 2), (33, .invokevirtual 59, 3), (36, .ifCond .eq (60), 3), (39, .aload_n 0, 1), (40, .iload_n 1, 1), (41, .invokevirtual 62, 3), (44, .ifCond .eq (52), 3), (47, .aload_n 0, 1), (48, .bipush (32), 2), (50, .invokevirtual 59, 3), (53, .ifCond .eq (43), 3), (56, .aload_n 0, 1), (57, .iload_n 1, 1), (58, .invokevirtual 65, 3), (61, .ifCond .eq (35), 3), (64, .aload_n 0, 1), (65, .bipush (32), 2), (67, .invokevirtual 59, 3), (70, .ifCond .eq (26), 3), (73, .aload_n 0, 1), (74, .iload_n 1, 1), (75, .invokevirtual 68, 3), (78, .ifCond .eq (18), 3), (81, .aload_n 0, 1), (82, .getfield 19, 3), (85, .aload_n 0, 1), (86, .getfield 23, 3), (89, .if_icmp .ne (7), 3), (92, .iconst 1, 1), (93, .goto (4), 3), (96, .iconst 0, 1), (97, .istore_n 2, 1), (98, .iload_n 2, 1), (99, .ifCond .eq (16), 3), (102, .aload_n 0, 1), (103, .getfield 15, 3), (106, .dup, 1), (107, .getfield 48, 3), (110, .iconst 1, 1), (111, .iadd, 1), (112, .putfield 48, 3), (115, .iload_n 2, 1), (116, .ireturn, 1)]
theorem dt_Rd_readRule_ok : ∀ e ∈ dt_Rd_readRule, decode prog_5_method_4_code e.1 = .ok e.2 := by decide +kernel
theorem dc_Rd_readRule (k : Nat) {pc : Nat} {i : Instr} {n : Nat} (h : dt_Rd_readRule[k]? = some (pc, i, n)) : decode prog_5_method_4_code pc = .ok (i, n) := rn_dc dt_Rd_readRule_ok k h
def dt_Rd_readHead : List (Nat × Instr × Nat) := [(0, .aload_n 0, 1), (1, .invokevirtual 71, 3), (4, .invokestatic 74, 3), (7, .ifCond .ne (5), 3), (10, .iconst 0, 1), (11, .ireturn, 1), (12, .aload_n 0, 1), (13, .getfield 15, 3), (16, .getfield 77, 3), (19, .iload_n 1, 1), (20, .aload_n 0, 1), (21, .invokevirtual 81, 3), (24, .iastore, 1), (25, .aload_n 0, 1), (26, .getfield 15, 3), (29, .getfield 77, 3), (32, .iload_n 1, 1), (33, .iaload, 1), (34, .iconst (-1), 1), (35, .if_icmp .eq (7), 3), (38, .iconst 1, 1), (39, .goto (4), 3), (42, .iconst 0, 1), (43, .ireturn, 1)]
theorem dt_Rd_readHead_ok : ∀ e ∈ dt_Rd_readHead, decode prog_5_method_5_code e.1 = .ok e.2 := by decide +kernel
theorem dc_Rd_readHead (k : Nat) {pc : Nat} {i : Instr} {n : Nat} (h : dt_Rd_readHead[k]? = some (pc, i, n)) : decode prog_5_method_5_code pc = .ok (i, n) := rn_dc dt_Rd_readHead_ok k h
def dt_Rd_readBody : List (Nat × Instr × Nat) := [(0, .iconst 0, 1), (1, .istore_n 2, 1), (2, .iload_n 2, 1), (3, .iconst 4, 1), (4, .if_icmp .ge (55), 3), (7, .aload_n 0, 1), (8, .invokevirtual 71, 3), (11, .invokestatic 74, 3), (14, .ifCond .ne (13), 3), (17, .aload_n 0, 1), (18, .invokevirtual 71, 3), (21, .invokestatic 84, 3), (24, .ifCond .eq (35), 3), (27, .aload_n 0, 1), (28, .invokevirtual 81, 3), (31, .istore_n 3, 1), (32, .iload_n 3, 1), (33, .iconst (-1), 1), (34, .if_icmp .ne (5), 3), (37, .iconst 0, 1), (38, .ireturn, 1), (39, .aload_n 0, 1), (40, .getfield 15, 3), (43, .getfield 87, 3), (46, .iload_n 1, 1), (47, .iconst 4, 1), (48, .imul, 1), (49, .iload_n 2, 1), (50, .iadd, 1), (51, .iload_n 3, 1), (52, .iastore, 1), (53, .iinc 2 (1), 3), (56, .goto (-54), 3), (59, .aload_n 0, 1), (60, .getfield 15, 3), (63, .getfield 90, 3), (66, .iload_n 1, 1), (67, .iload_n 2, 1), (68, .iastore, 1), (69, .iconst 1, 1), (70, .ireturn, 1)]
theorem dt_Rd_readBody_ok : ∀ e ∈ dt_Rd_readBody, decode prog_5_method_6_code e.1 = .ok e.2 := by decide +kernel
theorem dc_Rd_readBody (k : Nat) {pc : Nat} {i : Instr} {n : Nat} (h : dt_Rd_readBody[k]? = some (pc, i, n)) : decode prog_5_method_6_code pc = .ok (i, n) := rn_dc dt_Rd_readBody_ok k h
def dt_Rd_readSymbol : List (Nat × Instr × Nat) := [(0, .aload_n 0, 1), (1, .invokevirtual 71, 3), (4, .istore_n 1, 1), (5, .aload_n 0, 1), (6, .dup, 1), (7, .getfield 19, 3), (10, .iconst 1, 1), (11, .iadd, 1), (12, .putfield 19, 3), (15, .iload_n 1, 1), (16, .invokestatic 74, 3), (19, .ifCond .eq (14), 3), (22, .aload_n 0, 1), (23, .getfield 15, 3), (26, .iload_n 1, 1), (27, .invokevirtual 93, 3), (30, .goto (4), 3), (33, .iload_n 1, 1), (34, .ireturn, 1)]
theorem dt_Rd_readSymbol_ok : ∀ e ∈ dt_Rd_readSymbol, decode prog_5_method_7_code e.1 = .ok e.2 := by decide +kernel
theorem dc_Rd_readSymbol (k : Nat) {pc : Nat} {i : Instr} {n : Nat} (h : dt_Rd_readSymbol[k]? = some (pc, i, n)) : decode prog_5_method_7_code pc = .ok (i, n) := rn_dc dt_Rd_readSymbol_ok k h
def dt_Rd_readWeight : List (Nat × Instr × Nat) := [(0, .aload_n 0, 1), (1, .invokevirtual 96, 3), (4, .istore_n 2, 1), (5, .iconst 1, 1), (6, .istore_n 3, 1), (7, .iload_n 2, 1), (8, .iconst (-1), 1), (9, .if_icmp .eq (17), 3), (12, .aload_n 0, 1), (13, .bipush (47), 2), (15, .invokevirtual 59, 3), (18, .ifCond .eq (8), 3), (21, .aload_n 0, 1), (22, .invokevirtual 96, 3), (25, .istore_n 3, 1), (26, .iload_n 2, 1), (27, .iconst (-1), 1), (28, .if_icmp .eq (14), 3), (31, .iload_n 3, 1), (32, .iconst (-1), 1), (33, .if_icmp .eq (9), 3), (36, .iload_n 3, 1), (37, .iconst 2, 1), (38, .irem, 1), (39, .ifCond .ne (5), 3), (42, .iconst 0, 1), (43, .ireturn, 1), (44, .aload_n 0, 1), (45, .getfield 15, 3), (48, .getfield 99, 3), (51, .iload_n 1, 1), (52, .iload_n 2, 1), (53, .i2l, 1), (54, .iload_n 3, 1), (55, .i2l, 1), (56, .invokestatic 103, 3), (59, .lmul, 1), (60, .lastore, 1), (61, .iconst 1, 1), (62, .ireturn, 1)]
theorem dt_Rd_readWeight_ok : ∀ e ∈ dt_Rd_readWeight, decode prog_5_method_8_code e.1 = .ok e.2 := by decide +kernel
theorem dc_Rd_readWeight (k : Nat) {pc : Nat} {i : Instr} {n : Nat} (h : dt_Rd_readWeight[k]? = some (pc, i, n)) : decode prog_5_method_8_code pc = .ok (i, n) := rn_dc dt_Rd_readWeight_ok k h
def dt_Rd_readCost : List (Nat × Instr × Nat) := [(0, .aload_n 0, 1), (1, .invokevirtual 96, 3), (4, .istore_n 2, 1), (5, .aload_n 0, 1), (6, .getfield 15, 3), (9, .getfield 107, 3), (12, .iload_n 1, 1), (13, .iload_n 2, 1), (14, .iastore, 1), (15, .iload_n 2, 1), (16, .iconst (-1), 1), (17, .if_icmp .eq (13), 3), (20, .iload_n 2, 1), (21, .bipush (99), 2), (23, .if_icmp .gt (7), 3), (26, .iconst 1, 1), (27, .goto (4), 3), (30, .iconst 0, 1), (31, .ireturn, 1)]
theorem dt_Rd_readCost_ok : ∀ e ∈ dt_Rd_readCost, decode prog_5_method_9_code e.1 = .ok e.2 := by decide +kernel
theorem dc_Rd_readCost (k : Nat) {pc : Nat} {i : Instr} {n : Nat} (h : dt_Rd_readCost[k]? = some (pc, i, n)) : decode prog_5_method_9_code pc = .ok (i, n) := rn_dc dt_Rd_readCost_ok k h
def dt_Rd_readNumber : List (Nat × Instr × Nat) := [(0, .iconst 0, 1), (1, .istore_n 1, 1), (2, .iconst 0, 1), (3, .istore_n 2, 1), (4, .iload_n 2, 1), (5, .iconst 3, 1), (6, .if_icmp .ge (50), 3), (9, .aload_n 0, 1), (10, .invokevirtual 71, 3), (13, .bipush (48), 2), (15, .if_icmp .lt (41), 3), (18, .aload_n 0, 1), (19, .invokevirtual 71, 3), (22, .bipush (57), 2), (24, .if_icmp .gt (32), 3), (27, .bipush (10), 2), (29, .iload_n 1, 1), (30, .imul, 1), (31, .aload_n 0, 1), (32, .invokevirtual 71, 3), (35, .bipush (48), 2), (37, .isub, 1), (38, .iadd, 1), (39, .istore_n 1, 1), (40, .aload_n 0, 1), (41, .dup, 1), (42, .getfield 19, 3), (45, .iconst 1, 1), (46, .iadd, 1), (47, .putfield 19, 3), (50, .iinc 2 (1), 3), (53, .goto (-49), 3), (56, .iload_n 2, 1), (57, .ifCond .ne (7), 3), (60, .iconst (-1), 1), (61, .goto (4), 3), (64, .iload_n 1, 1), (65, .ireturn, 1)]
theorem dt_Rd_readNumber_ok : ∀ e ∈ dt_Rd_readNumber, decode prog_5_method_10_code e.1 = .ok e.2 := by decide +kernel
theorem dc_Rd_readNumber (k : Nat) {pc : Nat} {i : Instr} {n : Nat} (h : dt_Rd_readNumber[k]? = some (pc, i, n)) : decode prog_5_method_10_code pc = .ok (i, n) := rn_dc dt_Rd_readNumber_ok k h
def dt_Rd_inverse : List (Nat × Instr × Nat) := [(0, .lload_n 0, 1), (1, .lstore_n 2, 1), (2, .iconst 0, 1), (3, .istore 4, 2), (5, .iload 4, 2), (7, .iconst 5, 1), (8, .if_icmp .ge (19), 3), (11, .lload_n 2, 1), (12, .ldc2_w 110, 3), (15, .lload_n 0, 1), (16, .lload_n 2, 1), (17, .lmul, 1), (18, .lsub, 1), (19, .lmul, 1), (20, .lstore_n 2, 1), (21, .iinc 4 (1), 3), (24, .goto (-19), 3), (27, .lload_n 2, 1), (28, .lreturn, 1)]
theorem dt_Rd_inverse_ok : ∀ e ∈ dt_Rd_inverse, decode prog_5_method_11_code e.1 = .ok e.2 := by decide +kernel
theorem dc_Rd_inverse (k : Nat) {pc : Nat} {i : Instr} {n : Nat} (h : dt_Rd_inverse[k]? = some (pc, i, n)) : decode prog_5_method_11_code pc = .ok (i, n) := rn_dc dt_Rd_inverse_ok k h
def dt_Rd_seen : List (Nat × Instr × Nat) := [(0, .aload_n 0, 1), (1, .getfield 19, 3), (4, .aload_n 0, 1), (5, .getfield 23, 3), (8, .if_icmp .ge (18), 3), (11, .aload_n 0, 1), (12, .getfield 9, 3), (15, .getfield 112, 3), (18, .aload_n 0, 1), (19, .getfield 19, 3), (22, .caload, 1), (23, .goto (4), 3), (26, .iconst (-1), 1), (27, .ireturn, 1)]
theorem dt_Rd_seen_ok : ∀ e ∈ dt_Rd_seen, decode prog_5_method_12_code e.1 = .ok e.2 := by decide +kernel
theorem dc_Rd_seen (k : Nat) {pc : Nat} {i : Instr} {n : Nat} (h : dt_Rd_seen[k]? = some (pc, i, n)) : decode prog_5_method_12_code pc = .ok (i, n) := rn_dc dt_Rd_seen_ok k h
def dt_Rd_sees : List (Nat × Instr × Nat) := [(0, .aload_n 0, 1), (1, .invokevirtual 71, 3), (4, .iload_n 1, 1), (5, .if_icmp .ne (7), 3), (8, .iconst 1, 1), (9, .goto (4), 3), (12, .iconst 0, 1), (13, .ireturn, 1)]
theorem dt_Rd_sees_ok : ∀ e ∈ dt_Rd_sees, decode prog_5_method_13_code e.1 = .ok e.2 := by decide +kernel
theorem dc_Rd_sees (k : Nat) {pc : Nat} {i : Instr} {n : Nat} (h : dt_Rd_sees[k]? = some (pc, i, n)) : decode prog_5_method_13_code pc = .ok (i, n) := rn_dc dt_Rd_sees_ok k h
def dt_Rd_skip : List (Nat × Instr × Nat) := [(0, .aload_n 0, 1), (1, .iload_n 1, 1), (2, .invokevirtual 51, 3), (5, .ifCond .ne (5), 3), (8, .iconst 0, 1), (9, .ireturn, 1), (10, .aload_n 0, 1), (11, .dup, 1), (12, .getfield 19, 3), (15, .iconst 1, 1), (16, .iadd, 1), (17, .putfield 19, 3), (20, .iconst 1, 1), (21, .ireturn, 1)]
theorem dt_Rd_skip_ok : ∀ e ∈ dt_Rd_skip, decode prog_5_method_14_code e.1 = .ok e.2 := by decide +kernel
theorem dc_Rd_skip (k : Nat) {pc : Nat} {i : Instr} {n : Nat} (h : dt_Rd_skip[k]? = some (pc, i, n)) : decode prog_5_method_14_code pc = .ok (i, n) := rn_dc dt_Rd_skip_ok k h
def dt_Md_init : List (Nat × Instr × Nat) := [(0, .aload_n 0, 1), (1, .invokespecial 1, 3), (4, .aload_n 0, 1), (5, .sipush (300), 3), (8, .newarray .int, 2), (10, .putfield 7, 3), (13, .aload_n 0, 1), (14, .sipush (300), 3), (17, .newarray .int, 2), (19, .putfield 13, 3), (22, .aload_n 0, 1), (23, .sipush (300), 3), (26, .newarray .int, 2), (28, .putfield 16, 3), (31, .aload_n 0, 1), (32, .bipush (12), 2), (34, .newarray .int, 2), (36, .putfield 19, 3), (39, .aload_n 0, 1), (40, .bipush (12), 2), (42, .newarray .int, 2), (44, .putfield 22, 3), (47, .aload_n 0, 1), (48, .bipush (48), 2), (50, .newarray .int, 2), (52, .putfield 25, 3), (55, .aload_n 0, 1), (56, .bipush (12), 2), (58, .newarray .long, 2), (60, .putfield 28, 3), (63, .aload_n 0, 1), (64, .bipush (12), 2), (66, .newarray .int, 2), (68, .putfield 32, 3), (71, .aload_n 0, 1), (72, .bipush (6), 2), (74, .newarray .int, 2), (76, .putfield 35, 3), (79, .aload_n 0, 1), (80, .bipush (8), 2), (82, .newarray .int, 2), (84, .putfield 38, 3), (87, .aload_n 0, 1), (88, .bipush (6), 2), (90, .newarray .long, 2), (92, .putfield 41, 3), (95, .aload_n 0, 1), (96, .bipush (6), 2), (98, .newarray .int, 2), (100, .putfield 44, 3), (103, .aload_n 0, 1), (104, .sipush (486), 3), (107, .newarray .long, 2), (109, .putfield 47, 3), (112, .aload_n 0, 1), (113, .sipush (486), 3), (116, .newarray .int, 2), (118, .putfield 50, 3), (121, .aload_n 0, 1), (122, .bipush (36), 2), (124, .newarray .long, 2), (126, .putfield 53, 3), (129, .aload_n 0, 1), (130, .bipush (10), 2), (132, .newarray .long, 2), (134, .putfield 56, 3), (137, .aload_n 0, 1), (138, .bipush (10), 2), (140, .newarray .long, 2), (142, .putfield 59, 3), (145, .aload_n 0, 1), (146, .bipush (50), 2), (148, .newarray .int, 2), (150, .putfield 62, 3), (153, .aload_n 0, 1), (154, .bipush (100), 2), (156, .newarray .int, 2), (158, .putfield 65, 3), (161, .aload_n 0, 1), (162, .bipush (100), 2), (164, .newarray .int, 2), (166, .putfield 68, 3), (169, .aload_n 0, 1), (170, .bipush (100), 2), (172, .newarray .int, 2), (174, .putfield 71, 3), (177, .aload_n 0, 1), (178, .sipush (1500), 3), (181, .newarray .int, 2), (183, .putfield 74, 3), (186, .return_, 1)]
theorem dt_Md_init_ok : ∀ e ∈ dt_Md_init, decode prog_9_method_1_code e.1 = .ok e.2 := by decide +kernel
theorem dc_Md_init (k : Nat) {pc : Nat} {i : Instr} {n : Nat} (h : dt_Md_init[k]? = some (pc, i, n)) : decode prog_9_method_1_code pc = .ok (i, n) := rn_dc dt_Md_init_ok k h
def dt_Md_thrown : List (Nat × Instr × Nat) := [(0, .aload_n 0, 1), (1, .getfield 77, 3), (4, .ireturn, 1)]
theorem dt_Md_thrown_ok : ∀ e ∈ dt_Md_thrown, decode prog_9_method_2_code e.1 = .ok e.2 := by decide +kernel
theorem dc_Md_thrown (k : Nat) {pc : Nat} {i : Instr} {n : Nat} (h : dt_Md_thrown[k]? = some (pc, i, n)) : decode prog_9_method_2_code pc = .ok (i, n) := rn_dc dt_Md_thrown_ok k h
def dt_Md_put : List (Nat × Instr × Nat) := [(0, .aload_n 0, 1), (1, .iconst 0, 1), (2, .putfield 77, 3), (5, .iload_n 1, 1), (6, .iconst 1, 1), (7, .if_icmp .lt (21), 3), (10, .iload_n 1, 1), (11, .bipush (8), 2), (13, .if_icmp .gt (15), 3), (16, .aload_n 0, 1), (17, .getfield 81, 3), (20, .iload_n 1, 1), (21, .iadd, 1), (22, .sipush (300), 3), (25, .if_icmp .le (5), 3), (28, .iconst 0, 1), (29, .ireturn, 1), (30, .iconst 1, 1), (31, .istore 4, 2), (33, .iconst 0, 1), (34, .istore 5, 2), (36, .iload 5, 2), (38, .iload_n 1, 1), (39, .if_icmp .ge (56), 3), (42, .lload_n 2, 1), (43, .bipush (8), 2), (45, .iload 5, 2), (47, .imul, 1), (48, .lushr, 1), (49, .ldc2_w 84, 3), (52, .land, 1), (53, .l2i, 1), (54, .istore 6, 2), (56, .iload 4, 2), (58, .ifCond .eq (28), 3), (61, .iload 6, 2), (63, .bipush (10), 2), (65, .if_icmp .eq (17), 3), (68, .iload 6, 2), (70, .bipush (32), 2), (72, .if_icmp .lt (14), 3), (75, .iload 6, 2), (77, .bipush (126), 2), (79, .if_icmp .gt (7), 3), (82, .iconst 1, 1), (83, .goto (4), 3), (86, .iconst 0, 1), (87, .istore 4, 2), (89, .iinc 5 (1), 3), (92, .goto (-56), 3), (95, .iload_n 1, 1), (96, .iconst 1, 1), (97, .isub, 1), (98, .istore 5, 2), (100, .iload 5, 2), (102, .ifCond .lt (45), 3), (105, .iload 4, 2), (107, .ifCond .eq (40), 3), (110, .aload_n 0, 1), (111, .getfield 7, 3), (114, .aload_n 0, 1), (115, .getfield 81, 3), (118, .lload_n 2, 1), (119, .bipush (8), 2), (121, .iload 5, 2), (123, .imul, 1), (124, .lushr, 1), (125, .ldc2_w 84, 3), (128, .land, 1), (129, .l2i, 1), (130, .iastore, 1), (131, .aload_n 0, 1), (132, .dup, 1), (133, .getfield 81, 3), (136, .iconst 1, 1), (137, .iadd, 1), (138, .putfield 81, 3), (141, .iinc 5 (-1), 3), (144, .goto (-44), 3), (147, .iload 4, 2), (149, .ireturn, 1)]
theorem dt_Md_put_ok : ∀ e ∈ dt_Md_put, decode prog_9_method_3_code e.1 = .ok e.2 := by decide +kernel
theorem dc_Md_put (k : Nat) {pc : Nat} {i : Instr} {n : Nat} (h : dt_Md_put[k]? = some (pc, i, n)) : decode prog_9_method_3_code pc = .ok (i, n) := rn_dc dt_Md_put_ok k h
def dt_Md_scrap : List (Nat × Instr × Nat) := [(0, .aload_n 0, 1), (1, .iconst 0, 1), (2, .putfield 77, 3), (5, .aload_n 0, 1), (6, .iconst 0, 1), (7, .putfield 81, 3), (10, .return_, 1)]
theorem dt_Md_scrap_ok : ∀ e ∈ dt_Md_scrap, decode prog_9_method_4_code e.1 = .ok e.2 := by decide +kernel
theorem dc_Md_scrap (k : Nat) {pc : Nat} {i : Instr} {n : Nat} (h : dt_Md_scrap[k]? = some (pc, i, n)) : decode prog_9_method_4_code pc = .ok (i, n) := rn_dc dt_Md_scrap_ok k h
def dt_Md_next : List (Nat × Instr × Nat) := [(0, .aload_n 0, 1), (1, .getfield 86, 3), (4, .aload_n 0, 1), (5, .getfield 89, 3), (8, .if_icmp .ge (20), 3), (11, .aload_n 0, 1), (12, .getfield 13, 3), (15, .aload_n 0, 1), (16, .getfield 86, 3), (19, .iaload, 1), (20, .iload_n 1, 1), (21, .if_icmp .ne (7), 3), (24, .iconst 1, 1), (25, .goto (4), 3), (28, .iconst 0, 1), (29, .istore_n 2, 1), (30, .aload_n 0, 1), (31, .iload_n 2, 1), (32, .ifCond .eq (12), 3), (35, .aload_n 0, 1), (36, .getfield 86, 3), (39, .iconst 1, 1), (40, .iadd, 1), (41, .goto (7), 3), (44, .aload_n 0, 1), (45, .getfield 86, 3), (48, .putfield 86, 3), (51, .iload_n 2, 1), (52, .ireturn, 1)]
theorem dt_Md_next_ok : ∀ e ∈ dt_Md_next, decode prog_9_method_5_code e.1 = .ok e.2 := by decide +kernel
theorem dc_Md_next (k : Nat) {pc : Nat} {i : Instr} {n : Nat} (h : dt_Md_next[k]? = some (pc, i, n)) : decode prog_9_method_5_code pc = .ok (i, n) := rn_dc dt_Md_next_ok k h
def dt_Md_isCapital : List (Nat × Instr × Nat) := [(0, .iload_n 0, 1), (1, .bipush (65), 2), (3, .if_icmp .lt (13), 3), (6, .iload_n 0, 1), (7, .bipush (90), 2), (9, .if_icmp .gt (7), 3), (12, .iconst 1, 1), (13, .goto (4), 3), (16, .iconst 0, 1), (17, .ireturn, 1)]
theorem dt_Md_isCapital_ok : ∀ e ∈ dt_Md_isCapital, decode prog_9_method_6_code e.1 = .ok e.2 := by decide +kernel
theorem dc_Md_isCapital (k : Nat) {pc : Nat} {i : Instr} {n : Nat} (h : dt_Md_isCapital[k]? = some (pc, i, n)) : decode prog_9_method_6_code pc = .ok (i, n) := rn_dc dt_Md_isCapital_ok k h
def dt_Md_isSmall : List (Nat × Instr × Nat) := [(0, .iload_n 0, 1), (1, .bipush (97), 2), (3, .if_icmp .lt (13), 3), (6, .iload_n 0, 1), (7, .bipush (122), 2), (9, .if_icmp .gt (7), 3), (12, .iconst 1, 1), (13, .goto (4), 3), (16, .iconst 0, 1), (17, .ireturn, 1)]
theorem dt_Md_isSmall_ok : ∀ e ∈ dt_Md_isSmall, decode prog_9_method_7_code e.1 = .ok e.2 := by decide +kernel
theorem dc_Md_isSmall (k : Nat) {pc : Nat} {i : Instr} {n : Nat} (h : dt_Md_isSmall[k]? = some (pc, i, n)) : decode prog_9_method_7_code pc = .ok (i, n) := rn_dc dt_Md_isSmall_ok k h
def dt_Md_isFigure : List (Nat × Instr × Nat) := [(0, .aload_n 0, 1), (1, .getfield 86, 3), (4, .aload_n 0, 1), (5, .getfield 89, 3), (8, .if_icmp .ge (35), 3), (11, .aload_n 0, 1), (12, .getfield 13, 3), (15, .aload_n 0, 1), (16, .getfield 86, 3), (19, .iaload, 1), (20, .bipush (48), 2), (22, .if_icmp .lt (21), 3), (25, .aload_n 0, 1), (26, .getfield 13, 3), (29, .aload_n 0, 1), (30, .getfield 86, 3), (33, .iaload, 1), (34, .bipush (57), 2), (36, .if_icmp .gt (7), 3), (39, .iconst 1, 1), (40, .goto (4), 3), (43, .iconst 0, 1), (44, .ireturn, 1)]
theorem dt_Md_isFigure_ok : ∀ e ∈ dt_Md_isFigure, decode prog_9_method_8_code e.1 = .ok e.2 := by decide +kernel
theorem dc_Md_isFigure (k : Nat) {pc : Nat} {i : Instr} {n : Nat} (h : dt_Md_isFigure[k]? = some (pc, i, n)) : decode prog_9_method_8_code pc = .ok (i, n) := rn_dc dt_Md_isFigure_ok k h
def dt_Md_number : List (Nat × Instr × Nat) := [(0, .aload_n 0, 1), (1, .getfield 86, 3), (4, .istore_n 1, 1), (5, .aload_n 0, 1), (6, .iconst 0, 1), (7, .putfield 92, 3), (10, .aload_n 0, 1), (11, .invokevirtual 95, 3), (14, .ifCond .eq (50), 3), (17, .aload_n 0, 1), (18, .getfield 86, 3), (21, .iload_n 1, 1), (22, .iconst 3, 1), (23, .iadd, 1), (24, .if_icmp .ge (40), 3), (27, .aload_n 0, 1), (28, .bipush (10), 2), (30, .aload_n 0, 1), (31, .getfield 92, 3), (34, .imul, 1), (35, .aload_n 0, 1), (36, .getfield 13, 3), (39, .aload_n 0, 1), (40, .getfield 86, 3), (43, .iaload, 1), (44, .iadd, 1), (45, .bipush (48), 2), (47, .isub, 1), (48, .putfield 92, 3), (51, .aload_n 0, 1), (52, .dup, 1), (53, .getfield 86, 3), (56, .iconst 1, 1), (57, .iadd, 1), (58, .putfield 86, 3), (61, .goto (-51), 3), (64, .aload_n 0, 1), (65, .getfield 86, 3), (68, .iload_n 1, 1), (69, .if_icmp .le (14), 3), (72, .aload_n 0, 1), (73, .invokevirtual 95, 3), (76, .ifCond .ne (7), 3), (79, .iconst 1, 1), (80, .goto (4), 3), (83, .iconst 0, 1), (84, .ireturn, 1)]
theorem dt_Md_number_ok : ∀ e ∈ dt_Md_number, decode prog_9_method_9_code e.1 = .ok e.2 := by decide +kernel
theorem dc_Md_number (k : Nat) {pc : Nat} {i : Instr} {n : Nat} (h : dt_Md_number[k]? = some (pc, i, n)) : decode prog_9_method_9_code pc = .ok (i, n) := rn_dc dt_Md_number_ok k h
def dt_Md_symbol : List (Nat × Instr × Nat) := [(0, .iconst 0, 1), (1, .istore_n 2, 1), (2, .iload_n 2, 1), (3, .aload_n 0, 1), (4, .getfield 99, 3), (7, .if_icmp .ge (21), 3), (10, .aload_n 0, 1), (11, .getfield 35, 3), (14, .iload_n 2, 1), (15, .iaload, 1), (16, .iload_n 1, 1), (17, .if_icmp .ne (5), 3), (20, .iload_n 2, 1), (21, .ireturn, 1), (22, .iinc 2 (1), 3), (25, .goto (-23), 3), (28, .aload_n 0, 1), (29, .getfield 99, 3), (32, .bipush (6), 2), (34, .if_icmp .ne (5), 3), (37, .iconst (-1), 1), (38, .ireturn, 1), (39, .aload_n 0, 1), (40, .getfield 35, 3), (43, .aload_n 0, 1), (44, .getfield 99, 3), (47, .iload_n 1, 1), (48, .iastore, 1), (49, .aload_n 0, 1), (50, .dup, 1), (51, .getfield 99, 3), (54, .iconst 1, 1), (55, .iadd, 1), (56, .putfield 99, 3), (59, .aload_n 0, 1), (60, .getfield 99, 3), (63, .iconst 1, 1), (64, .isub, 1), (65, .ireturn, 1)]
theorem dt_Md_symbol_ok : ∀ e ∈ dt_Md_symbol, decode prog_9_method_10_code e.1 = .ok e.2 := by decide +kernel
theorem dc_Md_symbol (k : Nat) {pc : Nat} {i : Instr} {n : Nat} (h : dt_Md_symbol[k]? = some (pc, i, n)) : decode prog_9_method_10_code pc = .ok (i, n) := rn_dc dt_Md_symbol_ok k h
def dt_Md_inverse : List (Nat × Instr × Nat) := [(0, .lload_n 0, 1), (1, .lstore_n 2, 1), (2, .iconst 0, 1), (3, .istore 4, 2), (5, .iload 4, 2), (7, .bipush (6), 2), (9, .if_icmp .ge (19), 3), (12, .lload_n 2, 1), (13, .ldc2_w 102, 3), (16, .lload_n 0, 1), (17, .lload_n 2, 1), (18, .lmul, 1), (19, .lsub, 1), (20, .lmul, 1), (21, .lstore_n 2, 1), (22, .iinc 4 (1), 3), (25, .goto (-20), 3), (28, .lload_n 2, 1), (29, .lreturn, 1)]
theorem dt_Md_inverse_ok : ∀ e ∈ dt_Md_inverse, decode prog_9_method_11_code e.1 = .ok e.2 := by decide +kernel
theorem dc_Md_inverse (k : Nat) {pc : Nat} {i : Instr} {n : Nat} (h : dt_Md_inverse[k]? = some (pc, i, n)) : decode prog_9_method_11_code pc = .ok (i, n) := rn_dc dt_Md_inverse_ok k h
def dt_Md_body : List (Nat × Instr × Nat) := [(0, .aload_n 0, 1), (1, .getfield 22, 3), (4, .iload_n 1, 1), (5, .iconst 0, 1), (6, .iastore, 1), (7, .aload_n 0, 1), (8, .getfield 86, 3), (11, .aload_n 0, 1), (12, .getfield 89, 3), (15, .if_icmp .ge (129), 3), (18, .aload_n 0, 1), (19, .getfield 13, 3), (22, .aload_n 0, 1), (23, .getfield 86, 3), (26, .iaload, 1), (27, .invokestatic 104, 3), (30, .ifCond .ne (18), 3), (33, .aload_n 0, 1), (34, .getfield 13, 3), (37, .aload_n 0, 1), (38, .getfield 86, 3), (41, .iaload, 1), (42, .invokestatic 108, 3), (45, .ifCond .eq (99), 3), (48, .aload_n 0, 1), (49, .getfield 13, 3), (52, .aload_n 0, 1), (53, .getfield 86, 3), (56, .iaload, 1), (57, .invokestatic 104, 3), (60, .ifCond .eq (19), 3), (63, .aload_n 0, 1), (64, .aload_n 0, 1), (65, .getfield 13, 3), (68, .aload_n 0, 1), (69, .getfield 86, 3), (72, .iaload, 1), (73, .invokevirtual 111, 3), (76, .goto (12), 3), (79, .aload_n 0, 1), (80, .getfield 13, 3), (83, .aload_n 0, 1), (84, .getfield 86, 3), (87, .iaload, 1), (88, .istore_n 2, 1), (89, .iload_n 2, 1), (90, .ifCond .lt (13), 3), (93, .aload_n 0, 1), (94, .getfield 22, 3), (97, .iload_n 1, 1), (98, .iaload, 1), (99, .iconst 4, 1), (100, .if_icmp .ne (5), 3), (103, .iconst 0, 1), (104, .ireturn, 1), (105, .aload_n 0, 1), (106, .getfield 25, 3), (109, .iconst 4, 1), (110, .iload_n 1, 1), (111, .imul, 1), (112, .aload_n 0, 1), (113, .getfield 22, 3), (116, .iload_n 1, 1), (117, .iaload, 1), (118, .iadd, 1), (119, .iload_n 2, 1), (120, .iastore, 1), (121, .aload_n 0, 1), (122, .getfield 22, 3), (125, .iload_n 1, 1), (126, .dup2, 1), (127, .iaload, 1), (128, .iconst 1, 1), (129, .iadd, 1), (130, .iastore, 1), (131, .aload_n 0, 1), (132, .dup, 1), (133, .getfield 86, 3), (136, .iconst 1, 1), (137, .iadd, 1), (138, .putfield 86, 3), (141, .goto (-134), 3), (144, .iconst 1, 1), (145, .ireturn, 1)]
theorem dt_Md_body_ok : ∀ e ∈ dt_Md_body, decode prog_9_method_12_code e.1 = .ok e.2 := by decide +kernel
theorem dc_Md_body (k : Nat) {pc : Nat} {i : Instr} {n : Nat} (h : dt_Md_body[k]? = some (pc, i, n)) : decode prog_9_method_12_code pc = .ok (i, n) := rn_dc dt_Md_body_ok k h
def dt_Md_ruleLine : List (Nat × Instr × Nat) := [(0, .aload_n 0, 1), (1, .getfield 115, 3), (4, .bipush (12), 2), (6, .if_icmp .eq (29), 3), (9, .aload_n 0, 1), (10, .getfield 86, 3), (13, .aload_n 0, 1), (14, .getfield 89, 3), (17, .if_icmp .eq (18), 3), (20, .aload_n 0, 1), (21, .getfield 13, 3), (24, .aload_n 0, 1), (25, .getfield 86, 3), (28, .iaload, 1), (29, .invokestatic 104, 3), (32, .ifCond .ne (5), 3), (35, .iconst 0, 1), (36, .ireturn, 1), (37, .aload_n 0, 1), (38, .getfield 115, 3), (41, .istore_n 1, 1), (42, .aload_n 0, 1), (43, .getfield 19, 3), (46, .iload_n 1, 1), (47, .aload_n 0, 1), (48, .aload_n 0, 1), (49, .getfield 13, 3), (52, .aload_n 0, 1), (53, .getfield 86, 3), (56, .iaload, 1), (57, .invokevirtual 111, 3), (60, .iastore, 1), (61, .aload_n 0, 1), (62, .dup, 1), (63, .getfield 86, 3), (66, .iconst 1, 1), (67, .iadd, 1), (68, .putfield 86, 3), (71, .aload_n 0, 1), (72, .getfield 19, 3), (75, .iload_n 1, 1), (76, .iaload, 1), (77, .ifCond .lt (36), 3), (80, .aload_n 0, 1), (81, .bipush (61), 2), (83, .invokevirtual 118, 3), (86, .ifCond .eq (27), 3), (89, .aload_n 0, 1), (90, .iload_n 1, 1), (91, .invokevirtual 121, 3), (94, .ifCond .eq (19), 3), (97, .aload_n 0, 1), (98, .bipush (32), 2), (100, .invokevirtual 118, 3), (103, .ifCond .eq (10), 3), (106, .aload_n 0, 1), (107, .invokevirtual 124, 3), (110, .ifCond .ne (5), 3), (113, .iconst 0, 1), (114, .ireturn, 1), (115, .aload_n 0, 1), (116, .getfield 28, 3), (119, .iload_n 1, 1), (120, .aload_n 0, 1), (121, .getfield 92, 3), (124, .i2l, 1), (125, .lastore, 1), (126, .aload_n 0, 1), (127, .bipush (47), 2), (129, .invokevirtual 118, 3), (132, .ifCond .eq (42), 3), (135, .aload_n 0, 1), (136, .invokevirtual 124, 3), (139, .ifCond .eq (12), 3), (142, .aload_n 0, 1), (143, .getfield 92, 3), (146, .iconst 2, 1), (147, .irem, 1), (148, .ifCond .ne (5), 3), (151, .iconst 0, 1), (152, .ireturn, 1), (153, .aload_n 0, 1), (154, .getfield 28, 3), (157, .iload_n 1, 1), (158, .aload_n 0, 1), (159, .getfield 28, 3), (162, .iload_n 1, 1), (163, .laload, 1), (164, .aload_n 0, 1), (165, .getfield 92, 3), (168, .i2l, 1), (169, .invokestatic 127, 3), (172, .lmul, 1), (173, .lastore, 1), (174, .aload_n 0, 1), (175, .bipush (32), 2), (177, .invokevirtual 118, 3), (180, .ifCond .eq (30), 3), (183, .aload_n 0, 1), (184, .invokevirtual 124, 3), (187, .ifCond .eq (23), 3), (190, .aload_n 0, 1), (191, .getfield 92, 3), (194, .bipush (99), 2), (196, .if_icmp .gt (14), 3), (199, .aload_n 0, 1), (200, .getfield 86, 3), (203, .aload_n 0, 1), (204, .getfield 89, 3), (207, .if_icmp .eq (5), 3), (210, .iconst 0, 1), (211, .ireturn, 1), (212, .aload_n 0, 1), (213, .getfield 32, 3), (216, .iload_n 1, 1), (217, .aload_n 0, 1), (218, .getfield 92, 3), (221, .iastore, 1), (222, .aload_n 0, 1), (223, .dup, 1), (224, .getfield 115, 3), (227, .iconst 1, 1), (228, .iadd, 1), (229, .putfield 115, 3), (232, .iconst 1, 1), (233, .ireturn, 1)]
theorem dt_Md_ruleLine_ok : ∀ e ∈ dt_Md_ruleLine, decode prog_9_method_13_code e.1 = .ok e.2 := by decide +kernel
theorem dc_Md_ruleLine (k : Nat) {pc : Nat} {i : Instr} {n : Nat} (h : dt_Md_ruleLine[k]? = some (pc, i, n)) : decode prog_9_method_13_code pc = .ok (i, n) := rn_dc dt_Md_ruleLine_ok k h
def dt_Md_readGrammar : List (Nat × Instr × Nat) := [(0, .aload_n 0, 1), (1, .iconst 0, 1), (2, .putfield 115, 3), (5, .aload_n 0, 1), (6, .iconst 0, 1), (7, .putfield 99, 3), (10, .iconst 0, 1), (11, .istore_n 2, 1), (12, .iconst 1, 1), (13, .istore_n 3, 1), (14, .iload_n 2, 1), (15, .iload_n 1, 1), (16, .if_icmp .gt (90), 3), (19, .iload_n 2, 1), (20, .istore 4, 2), (22, .iload 4, 2), (24, .iload_n 1, 1), (25, .if_icmp .ge (21), 3), (28, .aload_n 0, 1), (29, .getfield 13, 3), (32, .iload 4, 2), (34, .iaload, 1), (35, .bipush (10), 2), (37, .if_icmp .eq (9), 3), (40, .iinc 4 (1), 3), (43, .goto (-21), 3), (46, .aload_n 0, 1), (47, .iload_n 2, 1), (48, .putfield 86, 3), (51, .aload_n 0, 1), (52, .iload 4, 2), (54, .putfield 89, 3), (57, .iload 4, 2), (59, .iload_n 2, 1), (60, .if_icmp .eq (14), 3), (63, .aload_n 0, 1), (64, .getfield 13, 3), (67, .iload_n 2, 1), (68, .iaload, 1), (69, .bipush (35), 2), (71, .if_icmp .ne (7), 3), (74, .iconst 1, 1), (75, .goto (4), 3), (78, .iconst 0, 1), (79, .istore 5, 2), (81, .iload 5, 2), (83, .ifCond .ne (12), 3), (86, .aload_n 0, 1), (87, .invokevirtual 131, 3), (90, .ifCond .ne (5), 3), (93, .iload_n 3, 1), (94, .ireturn, 1), (95, .iinc 3 (1), 3), (98, .iload 4, 2), (100, .iconst 1, 1), (101, .iadd, 1), (102, .istore_n 2, 1), (103, .goto (-89), 3), (106, .aload_n 0, 1), (107, .getfield 115, 3), (110, .ifCond .ne (7), 3), (113, .iload_n 3, 1), (114, .goto (4), 3), (117, .iconst 0, 1), (118, .ireturn, 1)]
theorem dt_Md_readGrammar_ok : ∀ e ∈ dt_Md_readGrammar, decode prog_9_method_14_code e.1 = .ok e.2 := by decide +kernel
theorem dc_Md_readGrammar (k : Nat) {pc : Nat} {i : Instr} {n : Nat} (h : dt_Md_readGrammar[k]? = some (pc, i, n)) : decode prog_9_method_14_code pc = .ok (i, n) := rn_dc dt_Md_readGrammar_ok k h
def dt_Md_isLetter : List (Nat × Instr × Nat) := [(0, .iload_n 1, 1), (1, .iconst 5, 1), (2, .if_icmp .le (7), 3), (5, .iconst 1, 1), (6, .goto (4), 3), (9, .iconst 0, 1), (10, .ireturn, 1)]
theorem dt_Md_isLetter_ok : ∀ e ∈ dt_Md_isLetter, decode prog_9_method_15_code e.1 = .ok e.2 := by decide +kernel
theorem dc_Md_isLetter (k : Nat) {pc : Nat} {i : Instr} {n : Nat} (h : dt_Md_isLetter[k]? = some (pc, i, n)) : decode prog_9_method_15_code pc = .ok (i, n) := rn_dc dt_Md_isLetter_ok k h
def dt_Md_emptyBody : List (Nat × Instr × Nat) := [(0, .lconst 1, 1), (1, .lstore_n 3, 1), (2, .iconst 0, 1), (3, .istore 5, 2), (5, .iload 5, 2), (7, .aload_n 0, 1), (8, .getfield 22, 3), (11, .iload_n 1, 1), (12, .iaload, 1), (13, .if_icmp .ge (55), 3), (16, .aload_n 0, 1), (17, .getfield 25, 3), (20, .iconst 4, 1), (21, .iload_n 1, 1), (22, .imul, 1), (23, .iload 5, 2), (25, .iadd, 1), (26, .iaload, 1), (27, .istore 6, 2), (29, .iload 5, 2), (31, .iload_n 2, 1), (32, .if_icmp .ne (7), 3), (35, .lload_n 3, 1), (36, .goto (25), 3), (39, .aload_n 0, 1), (40, .iload 6, 2), (42, .invokevirtual 134, 3), (45, .ifCond .eq (7), 3), (48, .lconst 0, 1), (49, .goto (12), 3), (52, .lload_n 3, 1), (53, .aload_n 0, 1), (54, .getfield 41, 3), (57, .iload 6, 2), (59, .laload, 1), (60, .lmul, 1), (61, .lstore_n 3, 1), (62, .iinc 5 (1), 3), (65, .goto (-60), 3), (68, .lload_n 3, 1), (69, .lreturn, 1)]
theorem dt_Md_emptyBody_ok : ∀ e ∈ dt_Md_emptyBody, decode prog_9_method_16_code e.1 = .ok e.2 := by decide +kernel
theorem dc_Md_emptyBody (k : Nat) {pc : Nat} {i : Instr} {n : Nat} (h : dt_Md_emptyBody[k]? = some (pc, i, n)) : decode prog_9_method_16_code pc = .ok (i, n) := rn_dc dt_Md_emptyBody_ok k h
def dt_Md_emptyBodyCost : List (Nat × Instr × Nat) := [(0, .iconst 0, 1), (1, .istore_n 3, 1), (2, .iconst 0, 1), (3, .istore 4, 2), (5, .iload 4, 2), (7, .aload_n 0, 1), (8, .getfield 22, 3), (11, .iload_n 1, 1), (12, .iaload, 1), (13, .if_icmp .ge (87), 3), (16, .aload_n 0, 1), (17, .getfield 25, 3), (20, .iconst 4, 1), (21, .iload_n 1, 1), (22, .imul, 1), (23, .iload 4, 2), (25, .iadd, 1), (26, .iaload, 1), (27, .istore 5, 2), (29, .iload 4, 2), (31, .iload_n 2, 1), (32, .if_icmp .eq (26), 3), (35, .aload_n 0, 1), (36, .iload 5, 2), (38, .invokevirtual 134, 3), (41, .ifCond .ne (13), 3), (44, .aload_n 0, 1), (45, .getfield 44, 3), (48, .iload 5, 2), (50, .iaload, 1), (51, .ifCond .ge (7), 3), (54, .iconst 1, 1), (55, .goto (4), 3), (58, .iconst 0, 1), (59, .istore 6, 2), (61, .iload_n 3, 1), (62, .ifCond .lt (8), 3), (65, .iload 6, 2), (67, .ifCond .eq (7), 3), (70, .iconst (-1), 1), (71, .goto (22), 3), (74, .iload 4, 2), (76, .iload_n 2, 1), (77, .if_icmp .ne (7), 3), (80, .iload_n 3, 1), (81, .goto (12), 3), (84, .iload_n 3, 1), (85, .aload_n 0, 1), (86, .getfield 44, 3), (89, .iload 5, 2), (91, .iaload, 1), (92, .iadd, 1), (93, .istore_n 3, 1), (94, .iinc 4 (1), 3), (97, .goto (-92), 3), (100, .iload_n 3, 1), (101, .ireturn, 1)]
theorem dt_Md_emptyBodyCost_ok : ∀ e ∈ dt_Md_emptyBodyCost, decode prog_9_method_17_code e.1 = .ok e.2 := by decide +kernel
theorem dc_Md_emptyBodyCost (k : Nat) {pc : Nat} {i : Instr} {n : Nat} (h : dt_Md_emptyBodyCost[k]? = some (pc, i, n)) : decode prog_9_method_17_code pc = .ok (i, n) := rn_dc dt_Md_emptyBodyCost_ok k h
def dt_Md_findEmptyable : List (Nat × Instr × Nat) := [(0, .iconst 0, 1), (1, .istore_n 1, 1), (2, .iload_n 1, 1), (3, .aload_n 0, 1), (4, .getfield 99, 3), (7, .if_icmp .ge (16), 3), (10, .aload_n 0, 1), (11, .getfield 44, 3), (14, .iload_n 1, 1), (15, .iconst (-1), 1), (16, .iastore, 1), (17, .iinc 1 (1), 3), (20, .goto (-18), 3), (23, .iconst 0, 1), (24, .istore_n 1, 1), (25, .iload_n 1, 1), (26, .aload_n 0, 1), (27, .getfield 99, 3), (30, .if_icmp .ge (60), 3), (33, .iconst 0, 1), (34, .istore_n 2, 1), (35, .iload_n 2, 1), (36, .aload_n 0, 1), (37, .getfield 115, 3), (40, .if_icmp .ge (44), 3), (43, .aload_n 0, 1), (44, .getfield 44, 3), (47, .aload_n 0, 1), (48, .getfield 19, 3), (51, .iload_n 2, 1), (52, .iaload, 1), (53, .aload_n 0, 1), (54, .iload_n 2, 1), (55, .iconst (-1), 1), (56, .invokevirtual 137, 3), (59, .ifCond .lt (7), 3), (62, .iconst 0, 1), (63, .goto (14), 3), (66, .aload_n 0, 1), (67, .getfield 44, 3), (70, .aload_n 0, 1), (71, .getfield 19, 3), (74, .iload_n 2, 1), (75, .iaload, 1), (76, .iaload, 1), (77, .iastore, 1), (78, .iinc 2 (1), 3), (81, .goto (-46), 3), (84, .iinc 1 (1), 3), (87, .goto (-62), 3), (90, .return_, 1)]
theorem dt_Md_findEmptyable_ok : ∀ e ∈ dt_Md_findEmptyable, decode prog_9_method_18_code e.1 = .ok e.2 := by decide +kernel
theorem dc_Md_findEmptyable (k : Nat) {pc : Nat} {i : Instr} {n : Nat} (h : dt_Md_findEmptyable[k]? = some (pc, i, n)) : decode prog_9_method_18_code pc = .ok (i, n) := rn_dc dt_Md_findEmptyable_ok k h
def dt_Md_loops : List (Nat × Instr × Nat) := [(0, .aload_n 0, 1), (1, .invokevirtual 141, 3), (4, .lconst 0, 1), (5, .lstore_n 1, 1), (6, .iconst 0, 1), (7, .istore_n 3, 1), (8, .iload_n 3, 1), (9, .aload_n 0, 1), (10, .getfield 115, 3), (13, .if_icmp .ge (82), 3), (16, .iconst 0, 1), (17, .istore 4, 2), (19, .iload 4, 2), (21, .aload_n 0, 1), (22, .getfield 22, 3), (25, .iload_n 3, 1), (26, .iaload, 1), (27, .if_icmp .ge (62), 3), (30, .aload_n 0, 1), (31, .getfield 25, 3), (34, .iconst 4, 1), (35, .iload_n 3, 1), (36, .imul, 1), (37, .iload 4, 2), (39, .iadd, 1), (40, .iaload, 1), (41, .istore 5, 2), (43, .aload_n 0, 1), (44, .iload 5, 2), (46, .invokevirtual 134, 3), (49, .ifCond .ne (32), 3), (52, .aload_n 0, 1), (53, .iload_n 3, 1), (54, .iload 4, 2), (56, .invokevirtual 137, 3), (59, .ifCond .lt (22), 3), (62, .lload_n 1, 1), (63, .lconst 1, 1), (64, .bipush (6), 2), (66, .aload_n 0, 1), (67, .getfield 19, 3), (70, .iload_n 3, 1), (71, .iaload, 1), (72, .imul, 1), (73, .iload 5, 2), (75, .iadd, 1), (76, .lshl, 1), (77, .lor, 1), (78, .goto (4), 3), (81, .lload_n 1, 1), (82, .lstore_n 1, 1), (83, .iinc 4 (1), 3), (86, .goto (-67), 3), (89, .iinc 3 (1), 3), (92, .goto (-84), 3), (95, .iconst 0, 1), (96, .istore_n 3, 1), (97, .iload_n 3, 1), (98, .bipush (6), 2), (100, .if_icmp .ge (64), 3), (103, .iconst 0, 1), (104, .istore 4, 2), (106, .iload 4, 2), (108, .bipush (6), 2), (110, .if_icmp .ge (48), 3), (113, .lload_n 1, 1), (114, .bipush (6), 2), (116, .iload 4, 2), (118, .imul, 1), (119, .iload_n 3, 1), (120, .iadd, 1), (121, .lshr, 1), (122, .lconst 1, 1), (123, .land, 1), (124, .lconst 1, 1), (125, .lcmp, 1), (126, .ifCond .ne (24), 3), (129, .lload_n 1, 1), (130, .lload_n 1, 1), (131, .bipush (6), 2), (133, .iload_n 3, 1), (134, .imul, 1), (135, .lshr, 1), (136, .ldc2_w 144, 3), (139, .land, 1), (140, .bipush (6), 2), (142, .iload 4, 2), (144, .imul, 1), (145, .lshl, 1), (146, .lor, 1), (147, .goto (4), 3), (150, .lload_n 1, 1), (151, .lstore_n 1, 1), (152, .iinc 4 (1), 3), (155, .goto (-49), 3), (158, .iinc 3 (1), 3), (161, .goto (-64), 3), (164, .iconst 0, 1), (165, .istore_n 3, 1), (166, .iconst 0, 1), (167, .istore 4, 2), (169, .iload 4, 2), (171, .bipush (6), 2), (173, .if_icmp .ge (33), 3), (176, .iload_n 3, 1), (177, .ifCond .ne (17), 3), (180, .lload_n 1, 1), (181, .bipush (7), 2), (183, .iload 4, 2), (185, .imul, 1), (186, .lshr, 1), (187, .lconst 1, 1), (188, .land, 1), (189, .lconst 1, 1), (190, .lcmp, 1), (191, .ifCond .ne (7), 3), (194, .iconst 1, 1), (195, .goto (4), 3), (198, .iconst 0, 1), (199, .istore_n 3, 1), (200, .iinc 4 (1), 3), (203, .goto (-34), 3), (206, .iload_n 3, 1), (207, .ireturn, 1)]
theorem dt_Md_loops_ok : ∀ e ∈ dt_Md_loops, decode prog_9_method_19_code e.1 = .ok e.2 := by decide +kernel
theorem dc_Md_loops (k : Nat) {pc : Nat} {i : Instr} {n : Nat} (h : dt_Md_loops[k]? = some (pc, i, n)) : decode prog_9_method_19_code pc = .ok (i, n) := rn_dc dt_Md_loops_ok k h
def dt_Md_fillEmpty : List (Nat × Instr × Nat) := [(0, .iconst 0, 1), (1, .istore_n 1, 1), (2, .iload_n 1, 1), (3, .bipush (6), 2), (5, .if_icmp .ge (23), 3), (8, .aload_n 0, 1), (9, .getfield 41, 3), (12, .iload_n 1, 1), (13, .lconst 0, 1), (14, .lastore, 1), (15, .aload_n 0, 1), (16, .getfield 44, 3), (19, .iload_n 1, 1), (20, .iconst (-1), 1), (21, .iastore, 1), (22, .iinc 1 (1), 3), (25, .goto (-23), 3), (28, .iconst 0, 1), (29, .istore_n 1, 1), (30, .iload_n 1, 1), (31, .aload_n 0, 1), (32, .getfield 99, 3), (35, .if_icmp .gt (143), 3), (38, .iconst 0, 1), (39, .istore_n 2, 1), (40, .iload_n 2, 1), (41, .aload_n 0, 1), (42, .getfield 99, 3), (45, .if_icmp .ge (127), 3), (48, .lconst 0, 1), (49, .lstore_n 3, 1), (50, .iconst (-1), 1), (51, .istore 5, 2), (53, .iconst 0, 1), (54, .istore 6, 2), (56, .iload 6, 2), (58, .aload_n 0, 1), (59, .getfield 115, 3), (62, .if_icmp .ge (89), 3), (65, .aload_n 0, 1), (66, .getfield 19, 3), (69, .iload 6, 2), (71, .iaload, 1), (72, .iload_n 2, 1), (73, .if_icmp .ne (72), 3), (76, .lload_n 3, 1), (77, .aload_n 0, 1), (78, .getfield 28, 3), (81, .iload 6, 2), (83, .laload, 1), (84, .aload_n 0, 1), (85, .iload 6, 2), (87, .iconst (-1), 1), (88, .invokevirtual 146, 3), (91, .lmul, 1), (92, .ladd, 1), (93, .lstore_n 3, 1), (94, .aload_n 0, 1), (95, .iload 6, 2), (97, .iconst (-1), 1), (98, .invokevirtual 137, 3), (101, .istore 7, 2), (103, .iload 7, 2), (105, .ifCond .lt (36), 3), (108, .iload 5, 2), (110, .ifCond .lt (18), 3), (113, .iload 7, 2), (115, .aload_n 0, 1), (116, .getfield 32, 3), (119, .iload 6, 2), (121, .iaload, 1), (122, .iadd, 1), (123, .iload 5, 2), (125, .if_icmp .ge (16), 3), (128, .iload 7, 2), (130, .aload_n 0, 1), (131, .getfield 32, 3), (134, .iload 6, 2), (136, .iaload, 1), (137, .iadd, 1), (138, .goto (5), 3), (141, .iload 5, 2), (143, .istore 5, 2), (145, .iinc 6 (1), 3), (148, .goto (-92), 3), (151, .aload_n 0, 1), (152, .getfield 41, 3), (155, .iload_n 2, 1), (156, .lload_n 3, 1), (157, .lastore, 1), (158, .aload_n 0, 1), (159, .getfield 44, 3), (162, .iload_n 2, 1), (163, .iload 5, 2), (165, .iastore, 1), (166, .iinc 2 (1), 3), (169, .goto (-129), 3), (172, .iinc 1 (1), 3), (175, .goto (-145), 3), (178, .return_, 1)]
theorem dt_Md_fillEmpty_ok : ∀ e ∈ dt_Md_fillEmpty, decode prog_9_method_20_code e.1 = .ok e.2 := by decide +kernel
theorem dc_Md_fillEmpty (k : Nat) {pc : Nat} {i : Instr} {n : Nat} (h : dt_Md_fillEmpty[k]? = some (pc, i, n)) : decode prog_9_method_20_code pc = .ok (i, n) := rn_dc dt_Md_fillEmpty_ok k h
def dt_Md_fillUnits : List (Nat × Instr × Nat) := [(0, .iconst 0, 1), (1, .istore_n 1, 1), (2, .iload_n 1, 1), (3, .bipush (36), 2), (5, .if_icmp .ge (16), 3), (8, .aload_n 0, 1), (9, .getfield 53, 3), (12, .iload_n 1, 1), (13, .lconst 0, 1), (14, .lastore, 1), (15, .iinc 1 (1), 3), (18, .goto (-16), 3), (21, .iconst 0, 1), (22, .istore_n 1, 1), (23, .iload_n 1, 1), (24, .aload_n 0, 1), (25, .getfield 99, 3), (28, .if_icmp .gt (178), 3), (31, .iconst 0, 1), (32, .istore_n 2, 1), (33, .iload_n 2, 1), (34, .aload_n 0, 1), (35, .getfield 99, 3), (38, .if_icmp .ge (162), 3), (41, .iconst 0, 1), (42, .istore_n 3, 1), (43, .iload_n 3, 1), (44, .aload_n 0, 1), (45, .getfield 99, 3), (48, .if_icmp .ge (146), 3), (51, .iload_n 2, 1), (52, .iload_n 3, 1), (53, .if_icmp .ne (7), 3), (56, .lconst 1, 1), (57, .goto (4), 3), (60, .lconst 0, 1), (61, .lstore 4, 2), (63, .iconst 0, 1), (64, .istore 6, 2), (66, .iload 6, 2), (68, .aload_n 0, 1), (69, .getfield 115, 3), (72, .if_icmp .ge (103), 3), (75, .iconst 0, 1), (76, .istore 7, 2), (78, .iload 7, 2), (80, .aload_n 0, 1), (81, .getfield 22, 3), (84, .iload 6, 2), (86, .iaload, 1), (87, .if_icmp .ge (82), 3), (90, .aload_n 0, 1), (91, .getfield 19, 3), (94, .iload 6, 2), (96, .iaload, 1), (97, .iload_n 2, 1), (98, .if_icmp .ne (71), 3), (101, .aload_n 0, 1), (102, .getfield 25, 3), (105, .iconst 4, 1), (106, .iload 6, 2), (108, .imul, 1), (109, .iload 7, 2), (111, .iadd, 1), (112, .iaload, 1), (113, .istore 8, 2), (115, .aload_n 0, 1), (116, .iload 8, 2), (118, .invokevirtual 134, 3), (121, .ifCond .eq (8), 3), (124, .lload 4, 2), (126, .goto (35), 3), (129, .lload 4, 2), (131, .aload_n 0, 1), (132, .getfield 28, 3), (135, .iload 6, 2), (137, .laload, 1), (138, .aload_n 0, 1), (139, .iload 6, 2), (141, .iload 7, 2), (143, .invokevirtual 146, 3), (146, .lmul, 1), (147, .aload_n 0, 1), (148, .getfield 53, 3), (151, .bipush (6), 2), (153, .iload 8, 2), (155, .imul, 1), (156, .iload_n 3, 1), (157, .iadd, 1), (158, .laload, 1), (159, .lmul, 1), (160, .ladd, 1), (161, .lstore 4, 2), (163, .iinc 7 (1), 3), (166, .goto (-88), 3), (169, .iinc 6 (1), 3), (172, .goto (-106), 3), (175, .aload_n 0, 1), (176, .getfield 53, 3), (179, .bipush (6), 2), (181, .iload_n 2, 1), (182, .imul, 1), (183, .iload_n 3, 1), (184, .iadd, 1), (185, .lload 4, 2), (187, .lastore, 1), (188, .iinc 3 (1), 3), (191, .goto (-148), 3), (194, .iinc 2 (1), 3), (197, .goto (-164), 3), (200, .iinc 1 (1), 3), (203, .goto (-180), 3), (206, .return_, 1)]
theorem dt_Md_fillUnits_ok : ∀ e ∈ dt_Md_fillUnits, decode prog_9_method_21_code e.1 = .ok e.2 := by decide +kernel
theorem dc_Md_fillUnits (k : Nat) {pc : Nat} {i : Instr} {n : Nat} (h : dt_Md_fillUnits[k]? = some (pc, i, n)) : decode prog_9_method_21_code pc = .ok (i, n) := rn_dc dt_Md_fillUnits_ok k h
def dt_Md_take : List (Nat × Instr × Nat) := [(0, .aload_n 0, 1), (1, .iload_n 1, 1), (2, .invokevirtual 150, 3), (5, .istore_n 2, 1), (6, .iload_n 2, 1), (7, .ifCond .le (10), 3), (10, .aload_n 0, 1), (11, .iload_n 2, 1), (12, .putfield 92, 3), (15, .iconst 1, 1), (16, .ireturn, 1), (17, .aload_n 0, 1), (18, .invokevirtual 153, 3), (21, .ifCond .eq (5), 3), (24, .iconst 2, 1), (25, .ireturn, 1), (26, .aload_n 0, 1), (27, .invokevirtual 156, 3), (30, .aload_n 0, 1), (31, .invokevirtual 159, 3), (34, .iconst 0, 1), (35, .ireturn, 1)]
theorem dt_Md_take_ok : ∀ e ∈ dt_Md_take, decode prog_9_method_22_code e.1 = .ok e.2 := by decide +kernel
theorem dc_Md_take (k : Nat) {pc : Nat} {i : Instr} {n : Nat} (h : dt_Md_take[k]? = some (pc, i, n)) : decode prog_9_method_22_code pc = .ok (i, n) := rn_dc dt_Md_take_ok k h
def dt_Md_load : List (Nat × Instr × Nat) := [(0, .iconst 0, 1), (1, .istore_n 1, 1), (2, .iload_n 1, 1), (3, .aload_n 0, 1), (4, .getfield 81, 3), (7, .if_icmp .ge (21), 3), (10, .aload_n 0, 1), (11, .getfield 13, 3), (14, .iload_n 1, 1), (15, .aload_n 0, 1), (16, .getfield 7, 3), (19, .iload_n 1, 1), (20, .iaload, 1), (21, .iastore, 1), (22, .iinc 1 (1), 3), (25, .goto (-23), 3), (28, .aload_n 0, 1), (29, .getfield 81, 3), (32, .istore_n 1, 1), (33, .aload_n 0, 1), (34, .iconst 0, 1), (35, .putfield 81, 3), (38, .aload_n 0, 1), (39, .aload_n 0, 1), (40, .iload_n 1, 1), (41, .invokevirtual 162, 3), (44, .putfield 77, 3), (47, .aload_n 0, 1), (48, .getfield 77, 3), (51, .ifCond .ne (53), 3), (54, .iconst 0, 1), (55, .istore_n 2, 1), (56, .iload_n 2, 1), (57, .iload_n 1, 1), (58, .if_icmp .ge (21), 3), (61, .aload_n 0, 1), (62, .getfield 16, 3), (65, .iload_n 2, 1), (66, .aload_n 0, 1), (67, .getfield 13, 3), (70, .iload_n 2, 1), (71, .iaload, 1), (72, .iastore, 1), (73, .iinc 2 (1), 3), (76, .goto (-20), 3), (79, .aload_n 0, 1), (80, .iload_n 1, 1), (81, .putfield 165, 3), (84, .aload_n 0, 1), (85, .iconst 1, 1), (86, .putfield 168, 3), (89, .aload_n 0, 1), (90, .iconst 0, 1), (91, .putfield 172, 3), (94, .aload_n 0, 1), (95, .iconst 0, 1), (96, .putfield 175, 3), (99, .aload_n 0, 1), (100, .getfield 115, 3), (103, .ireturn, 1), (104, .aload_n 0, 1), (105, .aload_n 0, 1), (106, .getfield 77, 3), (109, .iconst 1, 1), (110, .if_icmp .ne (10), 3), (113, .aload_n 0, 1), (114, .getfield 92, 3), (117, .goto (7), 3), (120, .aload_n 0, 1), (121, .getfield 178, 3), (124, .putfield 178, 3), (127, .iconst 0, 1), (128, .istore_n 2, 1), (129, .iload_n 2, 1), (130, .aload_n 0, 1), (131, .getfield 165, 3), (134, .if_icmp .ge (21), 3), (137, .aload_n 0, 1), (138, .getfield 13, 3), (141, .iload_n 2, 1), (142, .aload_n 0, 1), (143, .getfield 16, 3), (146, .iload_n 2, 1), (147, .iaload, 1), (148, .iastore, 1), (149, .iinc 2 (1), 3), (152, .goto (-23), 3), (155, .aload_n 0, 1), (156, .getfield 168, 3), (159, .ifCond .eq (14), 3), (162, .aload_n 0, 1), (163, .aload_n 0, 1), (164, .getfield 165, 3), (167, .invokevirtual 162, 3), (170, .istore_n 2, 1), (171, .iload_n 2, 1), (172, .ireturn, 1), (173, .iconst 0, 1), (174, .ireturn, 1)]
theorem dt_Md_load_ok : ∀ e ∈ dt_Md_load, decode prog_9_method_23_code e.1 = .ok e.2 := by decide +kernel
theorem dc_Md_load (k : Nat) {pc : Nat} {i : Instr} {n : Nat} (h : dt_Md_load[k]? = some (pc, i, n)) : decode prog_9_method_23_code pc = .ok (i, n) := rn_dc dt_Md_load_ok k h
def dt_Md_wrong : List (Nat × Instr × Nat) := [(0, .aload_n 0, 1), (1, .iconst 0, 1), (2, .putfield 77, 3), (5, .aload_n 0, 1), (6, .getfield 178, 3), (9, .ireturn, 1)]
theorem dt_Md_wrong_ok : ∀ e ∈ dt_Md_wrong, decode prog_9_method_24_code e.1 = .ok e.2 := by decide +kernel
theorem dc_Md_wrong (k : Nat) {pc : Nat} {i : Instr} {n : Nat} (h : dt_Md_wrong[k]? = some (pc, i, n)) : decode prog_9_method_24_code pc = .ok (i, n) := rn_dc dt_Md_wrong_ok k h
def dt_Md_cell : List (Nat × Instr × Nat) := [(0, .bipush (81), 2), (2, .iload_n 0, 1), (3, .imul, 1), (4, .bipush (9), 2), (6, .iload_n 1, 1), (7, .imul, 1), (8, .iadd, 1), (9, .iload_n 2, 1), (10, .iadd, 1), (11, .ireturn, 1)]
theorem dt_Md_cell_ok : ∀ e ∈ dt_Md_cell, decode prog_9_method_25_code e.1 = .ok e.2 := by decide +kernel
theorem dc_Md_cell (k : Nat) {pc : Nat} {i : Instr} {n : Nat} (h : dt_Md_cell[k]? = some (pc, i, n)) : decode prog_9_method_25_code pc = .ok (i, n) := rn_dc dt_Md_cell_ok k h
def dt_Md_sumOf : List (Nat × Instr × Nat) := [(0, .aload_n 0, 1), (1, .iload_n 1, 1), (2, .invokevirtual 134, 3), (5, .ifCond .eq (26), 3), (8, .iload_n 3, 1), (9, .iload_n 2, 1), (10, .iconst 1, 1), (11, .iadd, 1), (12, .if_icmp .ne (17), 3), (15, .aload_n 0, 1), (16, .getfield 38, 3), (19, .iload_n 2, 1), (20, .iaload, 1), (21, .iload_n 1, 1), (22, .if_icmp .ne (7), 3), (25, .lconst 1, 1), (26, .goto (4), 3), (29, .lconst 0, 1), (30, .lreturn, 1), (31, .iload_n 2, 1), (32, .iload_n 3, 1), (33, .if_icmp .ne (12), 3), (36, .aload_n 0, 1), (37, .getfield 41, 3), (40, .iload_n 1, 1), (41, .laload, 1), (42, .goto (14), 3), (45, .aload_n 0, 1), (46, .getfield 47, 3), (49, .iload_n 1, 1), (50, .iload_n 2, 1), (51, .iload_n 3, 1), (52, .invokestatic 181, 3), (55, .laload, 1), (56, .lreturn, 1)]
theorem dt_Md_sumOf_ok : ∀ e ∈ dt_Md_sumOf, decode prog_9_method_26_code e.1 = .ok e.2 := by decide +kernel
theorem dc_Md_sumOf (k : Nat) {pc : Nat} {i : Instr} {n : Nat} (h : dt_Md_sumOf[k]? = some (pc, i, n)) : decode prog_9_method_26_code pc = .ok (i, n) := rn_dc dt_Md_sumOf_ok k h
def dt_Md_costOf : List (Nat × Instr × Nat) := [(0, .aload_n 0, 1), (1, .iload_n 1, 1), (2, .invokevirtual 134, 3), (5, .ifCond .eq (26), 3), (8, .iload_n 3, 1), (9, .iload_n 2, 1), (10, .iconst 1, 1), (11, .iadd, 1), (12, .if_icmp .ne (17), 3), (15, .aload_n 0, 1), (16, .getfield 38, 3), (19, .iload_n 2, 1), (20, .iaload, 1), (21, .iload_n 1, 1), (22, .if_icmp .ne (7), 3), (25, .iconst 0, 1), (26, .goto (4), 3), (29, .iconst (-1), 1), (30, .ireturn, 1), (31, .iload_n 2, 1), (32, .iload_n 3, 1), (33, .if_icmp .ne (12), 3), (36, .aload_n 0, 1), (37, .getfield 44, 3), (40, .iload_n 1, 1), (41, .iaload, 1), (42, .goto (14), 3), (45, .aload_n 0, 1), (46, .getfield 50, 3), (49, .iload_n 1, 1), (50, .iload_n 2, 1), (51, .iload_n 3, 1), (52, .invokestatic 181, 3), (55, .iaload, 1), (56, .ireturn, 1)]
theorem dt_Md_costOf_ok : ∀ e ∈ dt_Md_costOf, decode prog_9_method_27_code e.1 = .ok e.2 := by decide +kernel
theorem dc_Md_costOf (k : Nat) {pc : Nat} {i : Instr} {n : Nat} (h : dt_Md_costOf[k]? = some (pc, i, n)) : decode prog_9_method_27_code pc = .ok (i, n) := rn_dc dt_Md_costOf_ok k h
def dt_Md_bodySum : List (Nat × Instr × Nat) := [(0, .iload_n 2, 1), (1, .istore 4, 2), (3, .iload 4, 2), (5, .iload_n 3, 1), (6, .if_icmp .gt (27), 3), (9, .aload_n 0, 1), (10, .getfield 56, 3), (13, .iload 4, 2), (15, .iload 4, 2), (17, .iload_n 2, 1), (18, .if_icmp .ne (7), 3), (21, .lconst 1, 1), (22, .goto (4), 3), (25, .lconst 0, 1), (26, .lastore, 1), (27, .iinc 4 (1), 3), (30, .goto (-27), 3), (33, .iconst 0, 1), (34, .istore 4, 2), (36, .iload 4, 2), (38, .aload_n 0, 1), (39, .getfield 22, 3), (42, .iload_n 1, 1), (43, .iaload, 1), (44, .if_icmp .ge (119), 3), (47, .iload_n 2, 1), (48, .istore 5, 2), (50, .iload 5, 2), (52, .iload_n 3, 1), (53, .if_icmp .gt (75), 3), (56, .aload_n 0, 1), (57, .getfield 59, 3), (60, .iload 5, 2), (62, .lconst 0, 1), (63, .lastore, 1), (64, .iload_n 2, 1), (65, .istore 6, 2), (67, .iload 6, 2), (69, .iload 5, 2), (71, .if_icmp .gt (51), 3), (74, .aload_n 0, 1), (75, .getfield 59, 3), (78, .iload 5, 2), (80, .aload_n 0, 1), (81, .getfield 59, 3), (84, .iload 5, 2), (86, .laload, 1), (87, .aload_n 0, 1), (88, .getfield 56, 3), (91, .iload 6, 2), (93, .laload, 1), (94, .aload_n 0, 1), (95, .aload_n 0, 1), (96, .getfield 25, 3), (99, .iconst 4, 1), (100, .iload_n 1, 1), (101, .imul, 1), (102, .iload 4, 2), (104, .iadd, 1), (105, .iaload, 1), (106, .iload 6, 2), (108, .iload 5, 2), (110, .invokevirtual 185, 3), (113, .lmul, 1), (114, .ladd, 1), (115, .lastore, 1), (116, .iinc 6 (1), 3), (119, .goto (-52), 3), (122, .iinc 5 (1), 3), (125, .goto (-75), 3), (128, .iload_n 2, 1), (129, .istore 5, 2), (131, .iload 5, 2), (133, .iload_n 3, 1), (134, .if_icmp .gt (23), 3), (137, .aload_n 0, 1), (138, .getfield 56, 3), (141, .iload 5, 2), (143, .aload_n 0, 1), (144, .getfield 59, 3), (147, .iload 5, 2), (149, .laload, 1), (150, .lastore, 1), (151, .iinc 5 (1), 3), (154, .goto (-23), 3), (157, .iinc 4 (1), 3), (160, .goto (-124), 3), (163, .aload_n 0, 1), (164, .getfield 56, 3), (167, .iload_n 3, 1), (168, .laload, 1), (169, .lreturn, 1)]
theorem dt_Md_bodySum_ok : ∀ e ∈ dt_Md_bodySum, decode prog_9_method_28_code e.1 = .ok e.2 := by decide +kernel
theorem dc_Md_bodySum (k : Nat) {pc : Nat} {i : Instr} {n : Nat} (h : dt_Md_bodySum[k]? = some (pc, i, n)) : decode prog_9_method_28_code pc = .ok (i, n) := rn_dc dt_Md_bodySum_ok k h
def dt_Md_bodyCost : List (Nat × Instr × Nat) := [(0, .aload_n 0, 1), (1, .getfield 22, 3), (4, .iload_n 1, 1), (5, .iaload, 1), (6, .istore 4, 2), (8, .iload_n 2, 1), (9, .istore 5, 2), (11, .iload 5, 2), (13, .iload_n 3, 1), (14, .if_icmp .gt (33), 3), (17, .aload_n 0, 1), (18, .getfield 62, 3), (21, .bipush (10), 2), (23, .iload 4, 2), (25, .imul, 1), (26, .iload 5, 2), (28, .iadd, 1), (29, .iload 5, 2), (31, .iload_n 3, 1), (32, .if_icmp .ne (7), 3), (35, .iconst 0, 1), (36, .goto (4), 3), (39, .iconst (-1), 1), (40, .iastore, 1), (41, .iinc 5 (1), 3), (44, .goto (-33), 3), (47, .iload 4, 2), (49, .iconst 1, 1), (50, .isub, 1), (51, .istore 5, 2), (53, .iload 5, 2), (55, .ifCond .lt (134), 3), (58, .iload_n 2, 1), (59, .istore 6, 2), (61, .iload 6, 2), (63, .iload_n 3, 1), (64, .if_icmp .gt (119), 3), (67, .iconst (-1), 1), (68, .istore 7, 2), (70, .iload 6, 2), (72, .istore 8, 2), (74, .iload 8, 2), (76, .iload_n 3, 1), (77, .if_icmp .gt (85), 3), (80, .aload_n 0, 1), (81, .aload_n 0, 1), (82, .getfield 25, 3), (85, .iconst 4, 1), (86, .iload_n 1, 1), (87, .imul, 1), (88, .iload 5, 2), (90, .iadd, 1), (91, .iaload, 1), (92, .iload 6, 2), (94, .iload 8, 2), (96, .invokevirtual 189, 3), (99, .istore 9, 2), (101, .aload_n 0, 1), (102, .getfield 62, 3), (105, .bipush (10), 2), (107, .iload 5, 2), (109, .imul, 1), (110, .bipush (10), 2), (112, .iadd, 1), (113, .iload 8, 2), (115, .iadd, 1), (116, .iaload, 1), (117, .istore 10, 2), (119, .iload 9, 2), (121, .ifCond .lt (31), 3), (124, .iload 10, 2), (126, .ifCond .lt (26), 3), (129, .iload 7, 2), (131, .ifCond .lt (13), 3), (134, .iload 9, 2), (136, .iload 10, 2), (138, .iadd, 1), (139, .iload 7, 2), (141, .if_icmp .ge (11), 3), (144, .iload 9, 2), (146, .iload 10, 2), (148, .iadd, 1), (149, .goto (5), 3), (152, .iload 7, 2), (154, .istore 7, 2), (156, .iinc 8 (1), 3), (159, .goto (-85), 3), (162, .aload_n 0, 1), (163, .getfield 62, 3), (166, .bipush (10), 2), (168, .iload 5, 2), (170, .imul, 1), (171, .iload 6, 2), (173, .iadd, 1), (174, .iload 7, 2), (176, .iastore, 1), (177, .iinc 6 (1), 3), (180, .goto (-119), 3), (183, .iinc 5 (-1), 3), (186, .goto (-133), 3), (189, .aload_n 0, 1), (190, .getfield 62, 3), (193, .iload_n 2, 1), (194, .iaload, 1), (195, .ireturn, 1)]
theorem dt_Md_bodyCost_ok : ∀ e ∈ dt_Md_bodyCost, decode prog_9_method_29_code e.1 = .ok e.2 := by decide +kernel
theorem dc_Md_bodyCost (k : Nat) {pc : Nat} {i : Instr} {n : Nat} (h : dt_Md_bodyCost[k]? = some (pc, i, n)) : decode prog_9_method_29_code pc = .ok (i, n) := rn_dc dt_Md_bodyCost_ok k h
def dt_Md_fillPart : List (Nat × Instr × Nat) := [(0, .iconst 0, 1), (1, .istore_n 3, 1), (2, .iload_n 3, 1), (3, .aload_n 0, 1), (4, .getfield 99, 3), (7, .if_icmp .ge (33), 3), (10, .aload_n 0, 1), (11, .getfield 47, 3), (14, .iload_n 3, 1), (15, .iload_n 1, 1), (16, .iload_n 2, 1), (17, .invokestatic 181, 3), (20, .lconst 0, 1), (21, .lastore, 1), (22, .aload_n 0, 1), (23, .getfield 50, 3), (26, .iload_n 3, 1), (27, .iload_n 1, 1), (28, .iload_n 2, 1), (29, .invokestatic 181, 3), (32, .iconst (-1), 1), (33, .iastore, 1), (34, .iinc 3 (1), 3), (37, .goto (-35), 3), (40, .iconst 0, 1), (41, .istore_n 3, 1), (42, .iload_n 3, 1), (43, .aload_n 0, 1), (44, .getfield 99, 3), (47, .if_icmp .gt (164), 3), (50, .iconst 0, 1), (51, .istore 4, 2), (53, .iload 4, 2), (55, .aload_n 0, 1), (56, .getfield 99, 3), (59, .if_icmp .ge (146), 3), (62, .lconst 0, 1), (63, .lstore 5, 2), (65, .iconst (-1), 1), (66, .istore 7, 2), (68, .iconst 0, 1), (69, .istore 8, 2), (71, .iload 8, 2), (73, .aload_n 0, 1), (74, .getfield 115, 3), (77, .if_icmp .ge (94), 3), (80, .aload_n 0, 1), (81, .getfield 19, 3), (84, .iload 8, 2), (86, .iaload, 1), (87, .iload 4, 2), (89, .if_icmp .ne (76), 3), (92, .lload 5, 2), (94, .aload_n 0, 1), (95, .getfield 28, 3), (98, .iload 8, 2), (100, .laload, 1), (101, .aload_n 0, 1), (102, .iload 8, 2), (104, .iload_n 1, 1), (105, .iload_n 2, 1), (106, .invokevirtual 192, 3), (109, .lmul, 1), (110, .ladd, 1), (111, .lstore 5, 2), (113, .aload_n 0, 1), (114, .iload 8, 2), (116, .iload_n 1, 1), (117, .iload_n 2, 1), (118, .invokevirtual 195, 3), (121, .istore 9, 2), (123, .iload 9, 2), (125, .ifCond .lt (36), 3), (128, .iload 7, 2), (130, .ifCond .lt (18), 3), (133, .iload 9, 2), (135, .aload_n 0, 1), (136, .getfield 32, 3), (139, .iload 8, 2), (141, .iaload, 1), (142, .iadd, 1), (143, .iload 7, 2), (145, .if_icmp .ge (16), 3), (148, .iload 9, 2), (150, .aload_n 0, 1), (151, .getfield 32, 3), (154, .iload 8, 2), (156, .iaload, 1), (157, .iadd, 1), (158, .goto (5), 3), (161, .iload 7, 2), (163, .istore 7, 2), (165, .iinc 8 (1), 3), (168, .goto (-97), 3), (171, .aload_n 0, 1), (172, .getfield 47, 3), (175, .iload 4, 2), (177, .iload_n 1, 1), (178, .iload_n 2, 1), (179, .invokestatic 181, 3), (182, .lload 5, 2), (184, .lastore, 1), (185, .aload_n 0, 1), (186, .getfield 50, 3), (189, .iload 4, 2), (191, .iload_n 1, 1), (192, .iload_n 2, 1), (193, .invokestatic 181, 3), (196, .iload 7, 2), (198, .iastore, 1), (199, .iinc 4 (1), 3), (202, .goto (-149), 3), (205, .iinc 3 (1), 3), (208, .goto (-166), 3), (211, .return_, 1)]
theorem dt_Md_fillPart_ok : ∀ e ∈ dt_Md_fillPart, decode prog_9_method_30_code e.1 = .ok e.2 := by decide +kernel
theorem dc_Md_fillPart (k : Nat) {pc : Nat} {i : Instr} {n : Nat} (h : dt_Md_fillPart[k]? = some (pc, i, n)) : decode prog_9_method_30_code pc = .ok (i, n) := rn_dc dt_Md_fillPart_ok k h
def dt_Md_parse : List (Nat × Instr × Nat) := [(0, .aload_n 0, 1), (1, .getfield 81, 3), (4, .istore_n 1, 1), (5, .aload_n 0, 1), (6, .iconst 0, 1), (7, .putfield 81, 3), (10, .iload_n 1, 1), (11, .bipush (8), 2), (13, .if_icmp .gt (7), 3), (16, .iconst 1, 1), (17, .goto (4), 3), (20, .iconst 0, 1), (21, .istore_n 2, 1), (22, .iconst 0, 1), (23, .istore_n 3, 1), (24, .iload_n 3, 1), (25, .iload_n 1, 1), (26, .if_icmp .ge (31), 3), (29, .iload_n 2, 1), (30, .ifCond .eq (19), 3), (33, .aload_n 0, 1), (34, .getfield 7, 3), (37, .iload_n 3, 1), (38, .iaload, 1), (39, .invokestatic 108, 3), (42, .ifCond .eq (7), 3), (45, .iconst 1, 1), (46, .goto (4), 3), (49, .iconst 0, 1), (50, .istore_n 2, 1), (51, .iinc 3 (1), 3), (54, .goto (-30), 3), (57, .aload_n 0, 1), (58, .iload_n 2, 1), (59, .ifCond .ne (7), 3), (62, .iconst 1, 1), (63, .goto (15), 3), (66, .aload_n 0, 1), (67, .getfield 168, 3), (70, .ifCond .ne (7), 3), (73, .iconst 2, 1), (74, .goto (4), 3), (77, .iconst 0, 1), (78, .putfield 77, 3), (81, .aload_n 0, 1), (82, .getfield 77, 3), (85, .ifCond .le (5), 3), (88, .iconst 0, 1), (89, .ireturn, 1), (90, .aload_n 0, 1), (91, .iconst 1, 1), (92, .putfield 172, 3), (95, .aload_n 0, 1), (96, .iconst 0, 1), (97, .putfield 175, 3), (100, .aload_n 0, 1), (101, .iload_n 1, 1), (102, .putfield 198, 3), (105, .iconst 0, 1), (106, .istore_n 3, 1), (107, .iload_n 3, 1), (108, .iload_n 1, 1), (109, .if_icmp .ge (21), 3), (112, .aload_n 0, 1), (113, .getfield 38, 3), (116, .iload_n 3, 1), (117, .aload_n 0, 1), (118, .getfield 7, 3), (121, .iload_n 3, 1), (122, .iaload, 1), (123, .iastore, 1), (124, .iinc 3 (1), 3), (127, .goto (-20), 3), (130, .iconst 1, 1), (131, .istore_n 3, 1), (132, .iload_n 3, 1), (133, .iload_n 1, 1), (134, .if_icmp .gt (36), 3), (137, .iconst 0, 1), (138, .istore 4, 2), (140, .iload 4, 2), (142, .iload_n 3, 1), (143, .iadd, 1), (144, .iload_n 1, 1), (145, .if_icmp .gt (19), 3), (148, .aload_n 0, 1), (149, .iload 4, 2), (151, .iload 4, 2), (153, .iload_n 3, 1), (154, .iadd, 1), (155, .invokevirtual 201, 3), (158, .iinc 4 (1), 3), (161, .goto (-21), 3), (164, .iinc 3 (1), 3), (167, .goto (-35), 3), (170, .aload_n 0, 1), (171, .iconst 0, 1), (172, .iconst 0, 1), (173, .iload_n 1, 1), (174, .invokevirtual 189, 3), (177, .ifCond .lt (7), 3), (180, .iconst 1, 1), (181, .goto (4), 3), (184, .iconst 0, 1), (185, .ireturn, 1)]
theorem dt_Md_parse_ok : ∀ e ∈ dt_Md_parse, decode prog_9_method_31_code e.1 = .ok e.2 := by decide +kernel
theorem dc_Md_parse (k : Nat) {pc : Nat} {i : Instr} {n : Nat} (h : dt_Md_parse[k]? = some (pc, i, n)) : decode prog_9_method_31_code pc = .ok (i, n) := rn_dc dt_Md_parse_ok k h
def dt_Md_ruleFor : List (Nat × Instr × Nat) := [(0, .iconst 0, 1), (1, .istore 4, 2), (3, .iconst 0, 1), (4, .istore 5, 2), (6, .iload 5, 2), (8, .ifCond .ne (79), 3), (11, .aload_n 0, 1), (12, .getfield 19, 3), (15, .iload 4, 2), (17, .iaload, 1), (18, .iload_n 1, 1), (19, .if_icmp .ne (14), 3), (22, .aload_n 0, 1), (23, .iload 4, 2), (25, .iload_n 2, 1), (26, .iload_n 3, 1), (27, .invokevirtual 195, 3), (30, .goto (4), 3), (33, .iconst (-1), 1), (34, .istore 6, 2), (36, .iload 6, 2), (38, .ifCond .lt (27), 3), (41, .iload 6, 2), (43, .aload_n 0, 1), (44, .getfield 32, 3), (47, .iload 4, 2), (49, .iaload, 1), (50, .iadd, 1), (51, .aload_n 0, 1), (52, .iload_n 1, 1), (53, .iload_n 2, 1), (54, .iload_n 3, 1), (55, .invokevirtual 189, 3), (58, .if_icmp .ne (7), 3), (61, .iconst 1, 1), (62, .goto (4), 3), (65, .iconst 0, 1), (66, .istore 5, 2), (68, .iload 5, 2), (70, .ifCond .eq (8), 3), (73, .iload 4, 2), (75, .goto (7), 3), (78, .iload 4, 2), (80, .iconst 1, 1), (81, .iadd, 1), (82, .istore 4, 2), (84, .goto (-78), 3), (87, .iload 4, 2), (89, .ireturn, 1)]
theorem dt_Md_ruleFor_ok : ∀ e ∈ dt_Md_ruleFor, decode prog_9_method_32_code e.1 = .ok e.2 := by decide +kernel
theorem dc_Md_ruleFor (k : Nat) {pc : Nat} {i : Instr} {n : Nat} (h : dt_Md_ruleFor[k]? = some (pc, i, n)) : decode prog_9_method_32_code pc = .ok (i, n) := rn_dc dt_Md_ruleFor_ok k h
def dt_Md_defer : List (Nat × Instr × Nat) := [(0, .aload_n 0, 1), (1, .getfield 74, 3), (4, .iconst 3, 1), (5, .iload_n 1, 1), (6, .imul, 1), (7, .iload_n 2, 1), (8, .iastore, 1), (9, .aload_n 0, 1), (10, .getfield 74, 3), (13, .iconst 3, 1), (14, .iload_n 1, 1), (15, .imul, 1), (16, .iconst 1, 1), (17, .iadd, 1), (18, .iload_n 3, 1), (19, .iastore, 1), (20, .aload_n 0, 1), (21, .getfield 74, 3), (24, .iconst 3, 1), (25, .iload_n 1, 1), (26, .imul, 1), (27, .iconst 2, 1), (28, .iadd, 1), (29, .iload 4, 2), (31, .iastore, 1), (32, .iload_n 1, 1), (33, .iconst 1, 1), (34, .iadd, 1), (35, .ireturn, 1)]
theorem dt_Md_defer_ok : ∀ e ∈ dt_Md_defer, decode prog_9_method_33_code e.1 = .ok e.2 := by decide +kernel
theorem dc_Md_defer (k : Nat) {pc : Nat} {i : Instr} {n : Nat} (h : dt_Md_defer[k]? = some (pc, i, n)) : decode prog_9_method_33_code pc = .ok (i, n) := rn_dc dt_Md_defer_ok k h
def dt_Md_turnOver : List (Nat × Instr × Nat) := [(0, .iload_n 1, 1), (1, .istore_n 3, 1), (2, .iload_n 3, 1), (3, .iload_n 2, 1), (4, .iconst 1, 1), (5, .isub, 1), (6, .iload_n 3, 1), (7, .iload_n 1, 1), (8, .isub, 1), (9, .isub, 1), (10, .if_icmp .ge (83), 3), (13, .iload_n 2, 1), (14, .iconst 1, 1), (15, .isub, 1), (16, .iload_n 3, 1), (17, .iload_n 1, 1), (18, .isub, 1), (19, .isub, 1), (20, .istore 4, 2), (22, .iconst 0, 1), (23, .istore 5, 2), (25, .iload 5, 2), (27, .iconst 3, 1), (28, .if_icmp .ge (59), 3), (31, .aload_n 0, 1), (32, .getfield 74, 3), (35, .iconst 3, 1), (36, .iload_n 3, 1), (37, .imul, 1), (38, .iload 5, 2), (40, .iadd, 1), (41, .iaload, 1), (42, .istore 6, 2), (44, .aload_n 0, 1), (45, .getfield 74, 3), (48, .iconst 3, 1), (49, .iload_n 3, 1), (50, .imul, 1), (51, .iload 5, 2), (53, .iadd, 1), (54, .aload_n 0, 1), (55, .getfield 74, 3), (58, .iconst 3, 1), (59, .iload 4, 2), (61, .imul, 1), (62, .iload 5, 2), (64, .iadd, 1), (65, .iaload, 1), (66, .iastore, 1), (67, .aload_n 0, 1), (68, .getfield 74, 3), (71, .iconst 3, 1), (72, .iload 4, 2), (74, .imul, 1), (75, .iload 5, 2), (77, .iadd, 1), (78, .iload 6, 2), (80, .iastore, 1), (81, .iinc 5 (1), 3), (84, .goto (-59), 3), (87, .iinc 3 (1), 3), (90, .goto (-88), 3), (93, .return_, 1)]
theorem dt_Md_turnOver_ok : ∀ e ∈ dt_Md_turnOver, decode prog_9_method_34_code e.1 = .ok e.2 := by decide +kernel
theorem dc_Md_turnOver (k : Nat) {pc : Nat} {i : Instr} {n : Nat} (h : dt_Md_turnOver[k]? = some (pc, i, n)) : decode prog_9_method_34_code pc = .ok (i, n) := rn_dc dt_Md_turnOver_ok k h
def dt_Md_unroll : List (Nat × Instr × Nat) := [(0, .aload_n 0, 1), (1, .iconst 0, 1), (2, .iload_n 1, 1), (3, .iload_n 2, 1), (4, .iload_n 3, 1), (5, .invokevirtual 205, 3), (8, .istore 4, 2), (10, .aload_n 0, 1), (11, .iconst 0, 1), (12, .putfield 175, 3), (15, .iload 4, 2), (17, .ifCond .le (278), 3), (20, .iinc 4 (-1), 3), (23, .aload_n 0, 1), (24, .getfield 74, 3), (27, .iconst 3, 1), (28, .iload 4, 2), (30, .imul, 1), (31, .iaload, 1), (32, .istore 5, 2), (34, .aload_n 0, 1), (35, .getfield 74, 3), (38, .iconst 3, 1), (39, .iload 4, 2), (41, .imul, 1), (42, .iconst 1, 1), (43, .iadd, 1), (44, .iaload, 1), (45, .istore 6, 2), (47, .aload_n 0, 1), (48, .getfield 74, 3), (51, .iconst 3, 1), (52, .iload 4, 2), (54, .imul, 1), (55, .iconst 2, 1), (56, .iadd, 1), (57, .iaload, 1), (58, .istore 7, 2), (60, .aload_n 0, 1), (61, .iload 5, 2), (63, .iload 6, 2), (65, .iload 7, 2), (67, .invokevirtual 209, 3), (70, .istore 8, 2), (72, .aload_n 0, 1), (73, .getfield 175, 3), (76, .bipush (100), 2), (78, .if_icmp .ge (36), 3), (81, .aload_n 0, 1), (82, .getfield 65, 3), (85, .aload_n 0, 1), (86, .getfield 175, 3), (89, .iload 8, 2), (91, .iastore, 1), (92, .aload_n 0, 1), (93, .getfield 68, 3), (96, .aload_n 0, 1), (97, .getfield 175, 3), (100, .iload 6, 2), (102, .iastore, 1), (103, .aload_n 0, 1), (104, .getfield 71, 3), (107, .aload_n 0, 1), (108, .getfield 175, 3), (111, .iload 7, 2), (113, .iastore, 1), (114, .aload_n 0, 1), (115, .dup, 1), (116, .getfield 175, 3), (119, .iconst 1, 1), (120, .iadd, 1), (121, .putfield 175, 3), (124, .iload 4, 2), (126, .istore 9, 2), (128, .iload 6, 2), (130, .istore 10, 2), (132, .iconst 0, 1), (133, .istore 11, 2), (135, .iload 11, 2), (137, .aload_n 0, 1), (138, .getfield 22, 3), (141, .iload 8, 2), (143, .iaload, 1), (144, .if_icmp .ge (140), 3), (147, .aload_n 0, 1), (148, .getfield 25, 3), (151, .iconst 4, 1), (152, .iload 8, 2), (154, .imul, 1), (155, .iload 11, 2), (157, .iadd, 1), (158, .iaload, 1), (159, .istore 12, 2), (161, .iload 10, 2), (163, .istore 13, 2), (165, .aload_n 0, 1), (166, .iload 12, 2), (168, .iload 10, 2), (170, .iload 13, 2), (172, .invokevirtual 189, 3), (175, .ifCond .lt (65), 3), (178, .aload_n 0, 1), (179, .getfield 62, 3), (182, .bipush (10), 2), (184, .iload 11, 2), (186, .imul, 1), (187, .bipush (10), 2), (189, .iadd, 1), (190, .iload 13, 2), (192, .iadd, 1), (193, .iaload, 1), (194, .ifCond .lt (46), 3), (197, .aload_n 0, 1), (198, .iload 12, 2), (200, .iload 10, 2), (202, .iload 13, 2), (204, .invokevirtual 189, 3), (207, .aload_n 0, 1), (208, .getfield 62, 3), (211, .bipush (10), 2), (213, .iload 11, 2), (215, .imul, 1), (216, .bipush (10), 2), (218, .iadd, 1), (219, .iload 13, 2), (221, .iadd, 1), (222, .iaload, 1), (223, .iadd, 1), (224, .aload_n 0, 1), (225, .getfield 62, 3), (228, .bipush (10), 2), (230, .iload 11, 2), (232, .imul, 1), (233, .iload 10, 2), (235, .iadd, 1), (236, .iaload, 1), (237, .if_icmp .eq (9), 3), (240, .iinc 13 (1), 3), (243, .goto (-78), 3), (246, .aload_n 0, 1), (247, .iload 12, 2), (249, .invokevirtual 134, 3), (252, .ifCond .eq (8), 3), (255, .iload 4, 2), (257, .goto (15), 3), (260, .aload_n 0, 1), (261, .iload 4, 2), (263, .iload 12, 2), (265, .iload 10, 2), (267, .iload 13, 2), (269, .invokevirtual 205, 3), (272, .istore 4, 2), (274, .iload 13, 2), (276, .istore 10, 2), (278, .iinc 11 (1), 3), (281, .goto (-146), 3), (284, .aload_n 0, 1), (285, .iload 9, 2), (287, .iload 4, 2), (289, .invokevirtual 212, 3), (292, .goto (-277), 3), (295, .return_, 1)]
theorem dt_Md_unroll_ok : ∀ e ∈ dt_Md_unroll, decode prog_9_method_35_code e.1 = .ok e.2 := by decide +kernel
theorem dc_Md_unroll (k : Nat) {pc : Nat} {i : Instr} {n : Nat} (h : dt_Md_unroll[k]? = some (pc, i, n)) : decode prog_9_method_35_code pc = .ok (i, n) := rn_dc dt_Md_unroll_ok k h
def dt_Md_isSymbol : List (Nat × Instr × Nat) := [(0, .aload_n 0, 1), (1, .getfield 168, 3), (4, .ifCond .eq (19), 3), (7, .iload_n 1, 1), (8, .ifCond .lt (15), 3), (11, .iload_n 1, 1), (12, .aload_n 0, 1), (13, .getfield 99, 3), (16, .if_icmp .ge (7), 3), (19, .iconst 1, 1), (20, .goto (4), 3), (23, .iconst 0, 1), (24, .ireturn, 1)]
theorem dt_Md_isSymbol_ok : ∀ e ∈ dt_Md_isSymbol, decode prog_9_method_36_code e.1 = .ok e.2 := by decide +kernel
theorem dc_Md_isSymbol (k : Nat) {pc : Nat} {i : Instr} {n : Nat} (h : dt_Md_isSymbol[k]? = some (pc, i, n)) : decode prog_9_method_36_code pc = .ok (i, n) := rn_dc dt_Md_isSymbol_ok k h
def dt_Md_refusal : List (Nat × Instr × Nat) := [(0, .aload_n 0, 1), (1, .iload_n 1, 1), (2, .invokevirtual 215, 3), (5, .ifCond .ne (7), 3), (8, .iconst 1, 1), (9, .goto (32), 3), (12, .aload_n 0, 1), (13, .getfield 172, 3), (16, .ifCond .eq (20), 3), (19, .iload_n 2, 1), (20, .ifCond .lt (16), 3), (23, .iload_n 2, 1), (24, .iload_n 3, 1), (25, .if_icmp .gt (11), 3), (28, .iload_n 3, 1), (29, .aload_n 0, 1), (30, .getfield 198, 3), (33, .if_icmp .le (7), 3), (36, .iconst 2, 1), (37, .goto (4), 3), (40, .iconst 0, 1), (41, .ireturn, 1)]
theorem dt_Md_refusal_ok : ∀ e ∈ dt_Md_refusal, decode prog_9_method_37_code e.1 = .ok e.2 := by decide +kernel
theorem dc_Md_refusal (k : Nat) {pc : Nat} {i : Instr} {n : Nat} (h : dt_Md_refusal[k]? = some (pc, i, n)) : decode prog_9_method_37_code pc = .ok (i, n) := rn_dc dt_Md_refusal_ok k h
def dt_Md_count : List (Nat × Instr × Nat) := [(0, .aload_n 0, 1), (1, .iconst 0, 1), (2, .putfield 77, 3), (5, .iload_n 1, 1), (6, .ifCond .lt (27), 3), (9, .iload_n 1, 1), (10, .iconst 2, 1), (11, .if_icmp .gt (22), 3), (14, .aload_n 0, 1), (15, .getfield 168, 3), (18, .ifCond .eq (15), 3), (21, .iload_n 1, 1), (22, .iconst 2, 1), (23, .if_icmp .ne (12), 3), (26, .aload_n 0, 1), (27, .getfield 172, 3), (30, .ifCond .ne (5), 3), (33, .iconst (-1), 1), (34, .ireturn, 1), (35, .iload_n 1, 1), (36, .ifCond .ne (10), 3), (39, .aload_n 0, 1), (40, .getfield 115, 3), (43, .goto (19), 3), (46, .iload_n 1, 1), (47, .iconst 1, 1), (48, .if_icmp .ne (10), 3), (51, .aload_n 0, 1), (52, .getfield 99, 3), (55, .goto (7), 3), (58, .aload_n 0, 1), (59, .getfield 198, 3), (62, .ireturn, 1)]
theorem dt_Md_count_ok : ∀ e ∈ dt_Md_count, decode prog_9_method_38_code e.1 = .ok e.2 := by decide +kernel
theorem dc_Md_count (k : Nat) {pc : Nat} {i : Instr} {n : Nat} (h : dt_Md_count[k]? = some (pc, i, n)) : decode prog_9_method_38_code pc = .ok (i, n) := rn_dc dt_Md_count_ok k h
def dt_Md_name : List (Nat × Instr × Nat) := [(0, .aload_n 0, 1), (1, .aload_n 0, 1), (2, .iload_n 1, 1), (3, .invokevirtual 215, 3), (6, .ifCond .eq (7), 3), (9, .iconst 0, 1), (10, .goto (4), 3), (13, .iconst 1, 1), (14, .putfield 77, 3), (17, .aload_n 0, 1), (18, .getfield 77, 3), (21, .ifCond .le (7), 3), (24, .iconst 0, 1), (25, .goto (9), 3), (28, .aload_n 0, 1), (29, .getfield 35, 3), (32, .iload_n 1, 1), (33, .iaload, 1), (34, .ireturn, 1)]
theorem dt_Md_name_ok : ∀ e ∈ dt_Md_name, decode prog_9_method_39_code e.1 = .ok e.2 := by decide +kernel
theorem dc_Md_name (k : Nat) {pc : Nat} {i : Instr} {n : Nat} (h : dt_Md_name[k]? = some (pc, i, n)) : decode prog_9_method_39_code pc = .ok (i, n) := rn_dc dt_Md_name_ok k h
def dt_Md_weight : List (Nat × Instr × Nat) := [(0, .aload_n 0, 1), (1, .aload_n 0, 1), (2, .getfield 168, 3), (5, .ifCond .eq (19), 3), (8, .iload_n 1, 1), (9, .ifCond .lt (15), 3), (12, .iload_n 1, 1), (13, .aload_n 0, 1), (14, .getfield 115, 3), (17, .if_icmp .ge (7), 3), (20, .iconst 0, 1), (21, .goto (4), 3), (24, .iconst 1, 1), (25, .putfield 77, 3), (28, .aload_n 0, 1), (29, .getfield 77, 3), (32, .ifCond .le (7), 3), (35, .lconst 0, 1), (36, .goto (9), 3), (39, .aload_n 0, 1), (40, .getfield 28, 3), (43, .iload_n 1, 1), (44, .laload, 1), (45, .lreturn, 1)]
theorem dt_Md_weight_ok : ∀ e ∈ dt_Md_weight, decode prog_9_method_40_code e.1 = .ok e.2 := by decide +kernel
theorem dc_Md_weight (k : Nat) {pc : Nat} {i : Instr} {n : Nat} (h : dt_Md_weight[k]? = some (pc, i, n)) : decode prog_9_method_40_code pc = .ok (i, n) := rn_dc dt_Md_weight_ok k h
def dt_Md_empty : List (Nat × Instr × Nat) := [(0, .aload_n 0, 1), (1, .aload_n 0, 1), (2, .iload_n 1, 1), (3, .invokevirtual 215, 3), (6, .ifCond .eq (7), 3), (9, .iconst 0, 1), (10, .goto (4), 3), (13, .iconst 1, 1), (14, .putfield 77, 3), (17, .aload_n 0, 1), (18, .getfield 77, 3), (21, .ifCond .le (7), 3), (24, .lconst 0, 1), (25, .goto (9), 3), (28, .aload_n 0, 1), (29, .getfield 41, 3), (32, .iload_n 1, 1), (33, .laload, 1), (34, .lreturn, 1)]
theorem dt_Md_empty_ok : ∀ e ∈ dt_Md_empty, decode prog_9_method_41_code e.1 = .ok e.2 := by decide +kernel
theorem dc_Md_empty (k : Nat) {pc : Nat} {i : Instr} {n : Nat} (h : dt_Md_empty[k]? = some (pc, i, n)) : decode prog_9_method_41_code pc = .ok (i, n) := rn_dc dt_Md_empty_ok k h
def dt_Md_unit : List (Nat × Instr × Nat) := [(0, .aload_n 0, 1), (1, .aload_n 0, 1), (2, .iload_n 1, 1), (3, .invokevirtual 215, 3), (6, .ifCond .eq (15), 3), (9, .aload_n 0, 1), (10, .iload_n 2, 1), (11, .invokevirtual 215, 3), (14, .ifCond .eq (7), 3), (17, .iconst 0, 1), (18, .goto (4), 3), (21, .iconst 1, 1), (22, .putfield 77, 3), (25, .aload_n 0, 1), (26, .getfield 77, 3), (29, .ifCond .le (7), 3), (32, .lconst 0, 1), (33, .goto (14), 3), (36, .aload_n 0, 1), (37, .getfield 53, 3), (40, .bipush (6), 2), (42, .iload_n 1, 1), (43, .imul, 1), (44, .iload_n 2, 1), (45, .iadd, 1), (46, .laload, 1), (47, .lreturn, 1)]
theorem dt_Md_unit_ok : ∀ e ∈ dt_Md_unit, decode prog_9_method_42_code e.1 = .ok e.2 := by decide +kernel
theorem dc_Md_unit (k : Nat) {pc : Nat} {i : Instr} {n : Nat} (h : dt_Md_unit[k]? = some (pc, i, n)) : decode prog_9_method_42_code pc = .ok (i, n) := rn_dc dt_Md_unit_ok k h
def dt_Md_inside : List (Nat × Instr × Nat) := [(0, .aload_n 0, 1), (1, .aload_n 0, 1), (2, .iload_n 1, 1), (3, .iload_n 2, 1), (4, .iload_n 3, 1), (5, .invokevirtual 218, 3), (8, .putfield 77, 3), (11, .aload_n 0, 1), (12, .getfield 77, 3), (15, .ifCond .le (7), 3), (18, .lconst 0, 1), (19, .goto (10), 3), (22, .aload_n 0, 1), (23, .iload_n 1, 1), (24, .iload_n 2, 1), (25, .iload_n 3, 1), (26, .invokevirtual 185, 3), (29, .lreturn, 1)]
theorem dt_Md_inside_ok : ∀ e ∈ dt_Md_inside, decode prog_9_method_43_code e.1 = .ok e.2 := by decide +kernel
theorem dc_Md_inside (k : Nat) {pc : Nat} {i : Instr} {n : Nat} (h : dt_Md_inside[k]? = some (pc, i, n)) : decode prog_9_method_43_code pc = .ok (i, n) := rn_dc dt_Md_inside_ok k h
def dt_Md_cheapest : List (Nat × Instr × Nat) := [(0, .aload_n 0, 1), (1, .aload_n 0, 1), (2, .iload_n 1, 1), (3, .iload_n 2, 1), (4, .iload_n 3, 1), (5, .invokevirtual 218, 3), (8, .putfield 77, 3), (11, .aload_n 0, 1), (12, .getfield 77, 3), (15, .ifCond .le (7), 3), (18, .iconst 0, 1), (19, .goto (10), 3), (22, .aload_n 0, 1), (23, .iload_n 1, 1), (24, .iload_n 2, 1), (25, .iload_n 3, 1), (26, .invokevirtual 189, 3), (29, .ireturn, 1)]
theorem dt_Md_cheapest_ok : ∀ e ∈ dt_Md_cheapest, decode prog_9_method_44_code e.1 = .ok e.2 := by decide +kernel
theorem dc_Md_cheapest (k : Nat) {pc : Nat} {i : Instr} {n : Nat} (h : dt_Md_cheapest[k]? = some (pc, i, n)) : decode prog_9_method_44_code pc = .ok (i, n) := rn_dc dt_Md_cheapest_ok k h
def dt_Md_build : List (Nat × Instr × Nat) := [(0, .aload_n 0, 1), (1, .aload_n 0, 1), (2, .iload_n 1, 1), (3, .iload_n 2, 1), (4, .iload_n 3, 1), (5, .invokevirtual 218, 3), (8, .putfield 77, 3), (11, .aload_n 0, 1), (12, .aload_n 0, 1), (13, .getfield 77, 3), (16, .ifCond .ne (17), 3), (19, .aload_n 0, 1), (20, .iload_n 1, 1), (21, .iload_n 2, 1), (22, .iload_n 3, 1), (23, .invokevirtual 189, 3), (26, .ifCond .ge (7), 3), (29, .iconst 3, 1), (30, .goto (7), 3), (33, .aload_n 0, 1), (34, .getfield 77, 3), (37, .putfield 77, 3), (40, .aload_n 0, 1), (41, .getfield 77, 3), (44, .ifCond .le (5), 3), (47, .iconst 0, 1), (48, .ireturn, 1), (49, .aload_n 0, 1), (50, .iload_n 1, 1), (51, .iload_n 2, 1), (52, .iload_n 3, 1), (53, .invokevirtual 221, 3), (56, .aload_n 0, 1), (57, .getfield 175, 3), (60, .ireturn, 1)]
theorem dt_Md_build_ok : ∀ e ∈ dt_Md_build, decode prog_9_method_45_code e.1 = .ok e.2 := by decide +kernel
theorem dc_Md_build (k : Nat) {pc : Nat} {i : Instr} {n : Nat} (h : dt_Md_build[k]? = some (pc, i, n)) : decode prog_9_method_45_code pc = .ok (i, n) := rn_dc dt_Md_build_ok k h
def dt_Md_node : List (Nat × Instr × Nat) := [(0, .aload_n 0, 1), (1, .iload_n 1, 1), (2, .ifCond .lt (17), 3), (5, .iload_n 1, 1), (6, .aload_n 0, 1), (7, .getfield 175, 3), (10, .if_icmp .ge (9), 3), (13, .iload_n 1, 1), (14, .bipush (99), 2), (16, .if_icmp .le (7), 3), (19, .iconst 1, 1), (20, .goto (4), 3), (23, .iconst 0, 1), (24, .putfield 77, 3), (27, .aload_n 0, 1), (28, .getfield 77, 3), (31, .ifCond .le (5), 3), (34, .iconst 0, 1), (35, .ireturn, 1), (36, .iload_n 2, 1), (37, .ifCond .ne (12), 3), (40, .aload_n 0, 1), (41, .getfield 65, 3), (44, .iload_n 1, 1), (45, .iaload, 1), (46, .goto (32), 3), (49, .iload_n 2, 1), (50, .iconst 1, 1), (51, .if_icmp .ne (12), 3), (54, .aload_n 0, 1), (55, .getfield 68, 3), (58, .iload_n 1, 1), (59, .iaload, 1), (60, .goto (18), 3), (63, .iload_n 2, 1), (64, .iconst 2, 1), (65, .if_icmp .ne (12), 3), (68, .aload_n 0, 1), (69, .getfield 71, 3), (72, .iload_n 1, 1), (73, .iaload, 1), (74, .goto (4), 3), (77, .iconst (-1), 1), (78, .ireturn, 1)]
theorem dt_Md_node_ok : ∀ e ∈ dt_Md_node, decode prog_9_method_46_code e.1 = .ok e.2 := by decide +kernel
theorem dc_Md_node (k : Nat) {pc : Nat} {i : Instr} {n : Nat} (h : dt_Md_node[k]? = some (pc, i, n)) : decode prog_9_method_46_code pc = .ok (i, n) := rn_dc dt_Md_node_ok k h
def dt_Lw_load : List (Nat × Instr × Nat) := [(0, .aload_n 1, 1), (1, .iconst 0, 1), (2, .aload_n 0, 1), (3, .invokevirtual 7, 3), (6, .i2l, 1), (7, .lastore, 1), (8, .goto (9), 3), (11, .astore_n 2, 1), (12, .iconst 1, 1), (13, .ireturn, 1), (14, .astore_n 2, 1), (15, .iconst 2, 1), (16, .ireturn, 1), (17, .iconst 0, 1), (18, .ireturn, 1)]
theorem dt_Lw_load_ok : ∀ e ∈ dt_Lw_load, decode method_3_code e.1 = .ok e.2 := by decide +kernel
theorem dc_Lw_load (k : Nat) {pc : Nat} {i : Instr} {n : Nat} (h : dt_Lw_load[k]? = some (pc, i, n)) : decode method_3_code pc = .ok (i, n) := rn_dc dt_Lw_load_ok k h
def dt_Lw_parse : List (Nat × Instr × Nat) := [(0, .aload_n 1, 1), (1, .iconst 0, 1), (2, .aload_n 0, 1), (3, .invokevirtual 17, 3), (6, .ifCond .eq (7), 3), (9, .lconst 1, 1), (10, .goto (4), 3), (13, .lconst 0, 1), (14, .lastore, 1), (15, .goto (9), 3), (18, .astore_n 2, 1), (19, .iconst 1, 1), (20, .ireturn, 1), (21, .astore_n 2, 1), (22, .iconst 2, 1), (23, .ireturn, 1), (24, .iconst 0, 1), (25, .ireturn, 1)]
theorem dt_Lw_parse_ok : ∀ e ∈ dt_Lw_parse, decode method_4_code e.1 = .ok e.2 := by decide +kernel
theorem dc_Lw_parse (k : Nat) {pc : Nat} {i : Instr} {n : Nat} (h : dt_Lw_parse[k]? = some (pc, i, n)) : decode method_4_code pc = .ok (i, n) := rn_dc dt_Lw_parse_ok k h
def dt_Lw_name : List (Nat × Instr × Nat) := [(0, .aload_n 2, 1), (1, .iconst 0, 1), (2, .aload_n 0, 1), (3, .iload_n 1, 1), (4, .invokevirtual 21, 3), (7, .i2l, 1), (8, .lastore, 1), (9, .goto (6), 3), (12, .astore_n 3, 1), (13, .iconst 1, 1), (14, .ireturn, 1), (15, .iconst 0, 1), (16, .ireturn, 1)]
theorem dt_Lw_name_ok : ∀ e ∈ dt_Lw_name, decode method_5_code e.1 = .ok e.2 := by decide +kernel
theorem dc_Lw_name (k : Nat) {pc : Nat} {i : Instr} {n : Nat} (h : dt_Lw_name[k]? = some (pc, i, n)) : decode method_5_code pc = .ok (i, n) := rn_dc dt_Lw_name_ok k h
def dt_Lw_weight : List (Nat × Instr × Nat) := [(0, .aload_n 2, 1), (1, .iconst 0, 1), (2, .aload_n 0, 1), (3, .iload_n 1, 1), (4, .invokevirtual 27, 3), (7, .lastore, 1), (8, .goto (6), 3), (11, .astore_n 3, 1), (12, .iconst 1, 1), (13, .ireturn, 1), (14, .iconst 0, 1), (15, .ireturn, 1)]
theorem dt_Lw_weight_ok : ∀ e ∈ dt_Lw_weight, decode method_6_code e.1 = .ok e.2 := by decide +kernel
theorem dc_Lw_weight (k : Nat) {pc : Nat} {i : Instr} {n : Nat} (h : dt_Lw_weight[k]? = some (pc, i, n)) : decode method_6_code pc = .ok (i, n) := rn_dc dt_Lw_weight_ok k h
def dt_Lw_empty : List (Nat × Instr × Nat) := [(0, .aload_n 2, 1), (1, .iconst 0, 1), (2, .aload_n 0, 1), (3, .iload_n 1, 1), (4, .invokevirtual 31, 3), (7, .lastore, 1), (8, .goto (6), 3), (11, .astore_n 3, 1), (12, .iconst 1, 1), (13, .ireturn, 1), (14, .iconst 0, 1), (15, .ireturn, 1)]
theorem dt_Lw_empty_ok : ∀ e ∈ dt_Lw_empty, decode method_7_code e.1 = .ok e.2 := by decide +kernel
theorem dc_Lw_empty (k : Nat) {pc : Nat} {i : Instr} {n : Nat} (h : dt_Lw_empty[k]? = some (pc, i, n)) : decode method_7_code pc = .ok (i, n) := rn_dc dt_Lw_empty_ok k h
def dt_Lw_unit : List (Nat × Instr × Nat) := [(0, .aload_n 3, 1), (1, .iconst 0, 1), (2, .aload_n 0, 1), (3, .iload_n 1, 1), (4, .iload_n 2, 1), (5, .invokevirtual 34, 3), (8, .lastore, 1), (9, .goto (7), 3), (12, .astore 4, 2), (14, .iconst 1, 1), (15, .ireturn, 1), (16, .iconst 0, 1), (17, .ireturn, 1)]
theorem dt_Lw_unit_ok : ∀ e ∈ dt_Lw_unit, decode method_8_code e.1 = .ok e.2 := by decide +kernel
theorem dc_Lw_unit (k : Nat) {pc : Nat} {i : Instr} {n : Nat} (h : dt_Lw_unit[k]? = some (pc, i, n)) : decode method_8_code pc = .ok (i, n) := rn_dc dt_Lw_unit_ok k h
def dt_Lw_inside : List (Nat × Instr × Nat) := [(0, .aload 4, 2), (2, .iconst 0, 1), (3, .aload_n 0, 1), (4, .iload_n 1, 1), (5, .iload_n 2, 1), (6, .iload_n 3, 1), (7, .invokevirtual 38, 3), (10, .lastore, 1), (11, .goto (11), 3), (14, .astore 5, 2), (16, .iconst 1, 1), (17, .ireturn, 1), (18, .astore 5, 2), (20, .iconst 2, 1), (21, .ireturn, 1), (22, .iconst 0, 1), (23, .ireturn, 1)]
theorem dt_Lw_inside_ok : ∀ e ∈ dt_Lw_inside, decode method_9_code e.1 = .ok e.2 := by decide +kernel
theorem dc_Lw_inside (k : Nat) {pc : Nat} {i : Instr} {n : Nat} (h : dt_Lw_inside[k]? = some (pc, i, n)) : decode method_9_code pc = .ok (i, n) := rn_dc dt_Lw_inside_ok k h
def dt_Lw_cheapest : List (Nat × Instr × Nat) := [(0, .aload 4, 2), (2, .iconst 0, 1), (3, .aload_n 0, 1), (4, .iload_n 1, 1), (5, .iload_n 2, 1), (6, .iload_n 3, 1), (7, .invokevirtual 42, 3), (10, .i2l, 1), (11, .lastore, 1), (12, .goto (11), 3), (15, .astore 5, 2), (17, .iconst 1, 1), (18, .ireturn, 1), (19, .astore 5, 2), (21, .iconst 2, 1), (22, .ireturn, 1), (23, .iconst 0, 1), (24, .ireturn, 1)]
theorem dt_Lw_cheapest_ok : ∀ e ∈ dt_Lw_cheapest, decode method_10_code e.1 = .ok e.2 := by decide +kernel
theorem dc_Lw_cheapest (k : Nat) {pc : Nat} {i : Instr} {n : Nat} (h : dt_Lw_cheapest[k]? = some (pc, i, n)) : decode method_10_code pc = .ok (i, n) := rn_dc dt_Lw_cheapest_ok k h
def dt_Lw_build : List (Nat × Instr × Nat) := [(0, .aload 4, 2), (2, .iconst 0, 1), (3, .aload_n 0, 1), (4, .iload_n 1, 1), (5, .iload_n 2, 1), (6, .iload_n 3, 1), (7, .invokevirtual 46, 3), (10, .i2l, 1), (11, .lastore, 1), (12, .goto (15), 3), (15, .astore 5, 2), (17, .iconst 1, 1), (18, .ireturn, 1), (19, .astore 5, 2), (21, .iconst 2, 1), (22, .ireturn, 1), (23, .astore 5, 2), (25, .iconst 3, 1), (26, .ireturn, 1), (27, .iconst 0, 1), (28, .ireturn, 1)]
theorem dt_Lw_build_ok : ∀ e ∈ dt_Lw_build, decode method_11_code e.1 = .ok e.2 := by decide +kernel
theorem dc_Lw_build (k : Nat) {pc : Nat} {i : Instr} {n : Nat} (h : dt_Lw_build[k]? = some (pc, i, n)) : decode method_11_code pc = .ok (i, n) := rn_dc dt_Lw_build_ok k h
def dt_Lw_node : List (Nat × Instr × Nat) := [(0, .aload_n 3, 1), (1, .iconst 0, 1), (2, .aload_n 0, 1), (3, .iload_n 1, 1), (4, .iload_n 2, 1), (5, .invokevirtual 49, 3), (8, .i2l, 1), (9, .lastore, 1), (10, .goto (7), 3), (13, .astore 4, 2), (15, .iconst 1, 1), (16, .ireturn, 1), (17, .iconst 0, 1), (18, .ireturn, 1)]
theorem dt_Lw_node_ok : ∀ e ∈ dt_Lw_node, decode method_12_code e.1 = .ok e.2 := by decide +kernel
theorem dc_Lw_node (k : Nat) {pc : Nat} {i : Instr} {n : Nat} (h : dt_Lw_node[k]? = some (pc, i, n)) : decode method_12_code pc = .ok (i, n) := rn_dc dt_Lw_node_ok k h
def dt_Ji_bitCount : List (Nat × Instr × Nat) := [(0, .iload_n 0, 1), (1, .iload_n 0, 1), (2, .iconst 1, 1), (3, .iushr, 1), (4, .ldc_w 265, 3), (7, .iand, 1), (8, .isub, 1), (9, .istore_n 0, 1), (10, .iload_n 0, 1), (11, .ldc_w 266, 3), (14, .iand, 1), (15, .iload_n 0, 1), (16, .iconst 2, 1), (17, .iushr, 1), (18, .ldc_w 266, 3), (21, .iand, 1), (22, .iadd, 1), (23, .istore_n 0, 1), (24, .iload_n 0, 1), (25, .iload_n 0, 1), (26, .iconst 4, 1), (27, .iushr, 1), (28, .iadd, 1), (29, .ldc_w 267, 3), (32, .iand, 1), (33, .istore_n 0, 1), (34, .iload_n 0, 1), (35, .iload_n 0, 1), (36, .bipush (8), 2), (38, .iushr, 1), (39, .iadd, 1), (40, .istore_n 0, 1), (41, .iload_n 0, 1), (42, .iload_n 0, 1), (43, .bipush (16), 2), (45, .iushr, 1), (46, .iadd, 1), (47, .istore_n 0, 1), (48, .iload_n 0, 1), (49, .bipush (63), 2), (51, .iand, 1), (52, .ireturn, 1)]
theorem dt_Ji_bitCount_ok : ∀ e ∈ dt_Ji_bitCount, decode prog_14_method_49_code e.1 = .ok e.2 := by decide +kernel
theorem dc_Ji_bitCount (k : Nat) {pc : Nat} {i : Instr} {n : Nat} (h : dt_Ji_bitCount[k]? = some (pc, i, n)) : decode prog_14_method_49_code pc = .ok (i, n) := rn_dc dt_Ji_bitCount_ok k h
def dt_Jm_min : List (Nat × Instr × Nat) := [(0, .iload_n 0, 1), (1, .iload_n 1, 1), (2, .if_icmp .gt (7), 3), (5, .iload_n 0, 1), (6, .goto (4), 3), (9, .iload_n 1, 1), (10, .ireturn, 1)]
theorem dt_Jm_min_ok : ∀ e ∈ dt_Jm_min, decode prog_15_method_69_code e.1 = .ok e.2 := by decide +kernel
theorem dc_Jm_min (k : Nat) {pc : Nat} {i : Instr} {n : Nat} (h : dt_Jm_min[k]? = some (pc, i, n)) : decode prog_15_method_69_code pc = .ok (i, n) := rn_dc dt_Jm_min_ok k h
end
section
/-! The core: worlds of mine (cells by number), the judgement Rn ('from here the machine comes to K'), a rule an instruction, a call by its contract. -/
abbrev rn_C : Type := (FieldType × Nat × (Nat → Int32)) ⊕ (Nat × (Nat → Int64)) ⊕ (FieldType × List (Option Nat)) ⊕ (Nat × List Value) ⊕ Unit
/-- ints (or chars), longs, references, an object, the script -/
abbrev rn_i (ty : FieldType) (n : Nat) (f : Nat → Int32) : rn_C := .inl (ty, n, f)
abbrev rn_l (n : Nat) (f : Nat → Int64) : rn_C := .inr (.inl (n, f))
abbrev rn_q (ty : FieldType) (l : List (Option Nat)) : rn_C := .inr (.inr (.inl (ty, l)))
abbrev rn_o (ci : Nat) (fs : List Value) : rn_C := .inr (.inr (.inr (.inl (ci, fs))))
abbrev rn_s : rn_C := .inr (.inr (.inr (.inr ())))
/-- a value of mine (a reference is the number of a cell) and the machine's -/
def rn_v (ad : List Nat) : Value → Value → Prop
  | .int x, u => u = .int x
  | .long x, u => u = .long x
  | .null, u => u = .null
  | .ref i, u => ∃ a, ad[i]? = some a ∧ u = .ref a
  | _, _ => False
def rn_vs (ad : List Nat) : List Value → List Value → Prop
  | [], us => us = []
  | v :: vs, us => ∃ u us', us = u :: us' ∧ rn_v ad v u ∧ rn_vs ad vs us'
def rn_r (ad : List Nat) : Option Nat → Option Nat → Prop
  | none, y => y = none
  | some i, y => ∃ a, ad[i]? = some a ∧ y = some a
def rn_c (ad : List Nat) (b : Nat) (tys : List (ClassId × FieldType)) (ws : va_W) (a : Nat) : rn_C → Prop
  | .inl (ty, n, f) => ∃ (k t0 : Nat) (cA : ClassId), ws[k]? = some (a, .inl (cA, n, .inl f)) ∧ tys[t0]? = some (cA, ty)
  | .inr (.inl (n, f)) => ∃ (k t0 : Nat) (cA : ClassId), ws[k]? = some (a, .inl (cA, n, .inr (.inl f))) ∧ tys[t0]? = some (cA, .long)
  | .inr (.inr (.inl (ty, l))) => ∃ (k t0 : Nat) (cA : ClassId) (g : Nat → Option Nat), ws[k]? = some (a, .inl (cA, l.length, .inr (.inr (.inr (.inr g))))) ∧ tys[t0]? = some (cA, ty) ∧ ty.isReference = true ∧ ∀ (j : Nat) (x : Option Nat), l[j]? = some x → rn_r ad x (g j)
  | .inr (.inr (.inr (.inl (ci, fs)))) => ∃ (k : Nat) (us : List Value), ws[k]? = some (a, .inr (ci, us)) ∧ rn_vs ad fs us
  | .inr (.inr (.inr (.inr _))) => a = b
def rn_w (ad : List Nat) (b : Nat) (tys : List (ClassId × FieldType)) (w : List rn_C) (ws : va_W) : Prop := ad.length = w.length ∧ (∀ (i j a : Nat), ad[i]? = some a → ad[j]? = some a → i = j) ∧ ∀ (i : Nat) (c : rn_C), w[i]? = some c → ∃ a, ad[i]? = some a ∧ rn_c ad b tys ws a c
theorem rn_gl {α : Type} {l m : List α} {i : Nat} {x : α} (h : l[i]? = some x) : (l ++ m)[i]? = some x := by
  rw [List.getElem?_append_left (List.getElem?_eq_some_iff.mp h).1]; exact h
theorem rn_v_grow {ad l : List Nat} {v u : Value} (h : rn_v ad v u) : rn_v (ad ++ l) v u := by
  cases v <;> first | exact h | (obtain ⟨a, h1, h2⟩ := h; exact ⟨a, rn_gl h1, h2⟩)
theorem rn_vs_grow {ad l : List Nat} : ∀ {vs us : List Value}, rn_vs ad vs us → rn_vs (ad ++ l) vs us
  | [], _, h => h
  | _ :: _, _, ⟨u, us', h1, h2, h3⟩ => ⟨u, us', h1, rn_v_grow h2, rn_vs_grow h3⟩
theorem rn_r_grow {ad l : List Nat} {x y : Option Nat} (h : rn_r ad x y) : rn_r (ad ++ l) x y := by
  cases x with
  | none => exact h
  | some i => obtain ⟨a, h1, h2⟩ := h; exact ⟨a, rn_gl h1, h2⟩
theorem rn_vs_app {ad : List Nat} : ∀ {xs ys us : List Value}, rn_vs ad (xs ++ ys) us → ∃ u1 u2, us = u1 ++ u2 ∧ rn_vs ad xs u1 ∧ rn_vs ad ys u2
  | [], _, us, h => ⟨[], us, rfl, rfl, h⟩
  | _ :: _, _, _, ⟨u, _, h1, h2, h3⟩ => by
    obtain ⟨u1, u2, e, g1, g2⟩ := rn_vs_app h3
    exact ⟨u :: u1, u2, by rw [h1, e]; rfl, ⟨u, u1, rfl, h2, g1⟩, g2⟩
theorem rn_vs_cat {ad : List Nat} : ∀ {xs ys u1 u2 : List Value}, rn_vs ad xs u1 → rn_vs ad ys u2 → rn_vs ad (xs ++ ys) (u1 ++ u2)
  | [], _, _, _, h, g => by
    have h : _ = _ := h
    subst h
    exact g
  | _ :: _, _, _, _, ⟨u, us', h1, h2, h3⟩, g => by
    subst h1
    exact ⟨u, us' ++ _, rfl, h2, rn_vs_cat h3 g⟩
theorem rn_vs_rev {ad : List Nat} : ∀ {xs us : List Value}, rn_vs ad xs us → rn_vs ad xs.reverse us.reverse
  | [], _, h => by
    have h : _ = _ := h
    subst h
    rfl
  | x :: xs, _, ⟨u, us', h1, h2, h3⟩ => by
    subst h1
    rw [List.reverse_cons, List.reverse_cons]
    exact rn_vs_cat (rn_vs_rev h3) ⟨u, [], rfl, h2, rfl⟩
theorem rn_vs_len {ad : List Nat} : ∀ {xs us : List Value}, rn_vs ad xs us → us.length = xs.length
  | [], _, h => by
    have h : _ = _ := h
    subst h
    rfl
  | x :: xs, _, ⟨u, us', h1, h2, h3⟩ => by
    subst h1
    rw [List.length_cons, List.length_cons, rn_vs_len h3]
theorem rn_v_cat {ad : List Nat} {v u : Value} (h : rn_v ad v u) : u.category = v.category := by
  cases v with
  | int x => have h : u = _ := h; subst h; rfl
  | long x => have h : u = _ := h; subst h; rfl
  | null => have h : u = _ := h; subst h; rfl
  | ref i => obtain ⟨a, -, rfl⟩ := h; rfl
  | _ => exact h.elim
theorem rn_vs_cats {ad : List Nat} : ∀ {xs us : List Value}, rn_vs ad xs us → (us.map fun v => v.category).sum = (xs.map fun v => v.category).sum
  | [], _, h => by
    have h : _ = _ := h
    subst h
    rfl
  | x :: xs, _, ⟨u, us', h1, h2, h3⟩ => by
    subst h1
    rw [List.map_cons, List.map_cons, List.sum_cons, List.sum_cons, rn_v_cat h2, rn_vs_cats h3]
theorem rn_vs_at {ad : List Nat} : ∀ {xs us : List Value} {k : Nat} {v : Value}, rn_vs ad xs us → xs[k]? = some v → ∃ u, us[k]? = some u ∧ rn_v ad v u
  | [], _, k, v, h, hk => by simp at hk
  | x :: xs, _, 0, v, ⟨u, us', h1, h2, h3⟩, hk => by
    subst h1
    rw [List.getElem?_cons_zero] at hk
    cases hk
    exact ⟨u, by rw [List.getElem?_cons_zero], h2⟩
  | x :: xs, _, k + 1, v, ⟨u, us', h1, h2, h3⟩, hk => by
    subst h1
    rw [List.getElem?_cons_succ] at hk
    obtain ⟨y, g1, g2⟩ := rn_vs_at h3 hk
    exact ⟨y, by rw [List.getElem?_cons_succ]; exact g1, g2⟩
theorem rn_vs_set {ad : List Nat} : ∀ {xs us : List Value} {k : Nat} {v u : Value}, rn_vs ad xs us → rn_v ad v u → rn_vs ad (xs.set k v) (us.set k u)
  | [], _, k, v, u, h, hk => by
    have h : _ = _ := h
    subst h
    rfl
  | x :: xs, _, 0, v, u, ⟨u0, us', h1, h2, h3⟩, hk => by
    subst h1
    exact ⟨u, us', rfl, hk, h3⟩
  | x :: xs, _, k + 1, v, u, ⟨u0, us', h1, h2, h3⟩, hk => by
    subst h1
    exact ⟨u0, us'.set k u, rfl, h2, rn_vs_set h3 hk⟩
theorem rn_c_set {ad : List Nat} {b : Nat} {tys : List (ClassId × FieldType)} {ws : va_W} {a a0 k0 : Nat} {c : rn_C} {e0 e1 : va_E} (h : rn_c ad b tys ws a c) (h0 : ws[k0]? = some (a0, e0)) (hne : a ≠ a0) : rn_c ad b tys (ws.set k0 (a0, e1)) a c := by
  have key : ∀ (k : Nat) (e : va_E), ws[k]? = some (a, e) → (ws.set k0 (a0, e1))[k]? = some (a, e) := by
    intro k e hk
    have hne2 : k0 ≠ k := by
      intro q
      subst q
      rw [h0] at hk
      cases hk
      exact hne rfl
    rw [List.getElem?_set_ne hne2]
    exact hk
  match c, h with
  | .inl (ty, n, f), ⟨k, t0, cA, h1, h2⟩ => exact ⟨k, t0, cA, key _ _ h1, h2⟩
  | .inr (.inl (n, f)), ⟨k, t0, cA, h1, h2⟩ => exact ⟨k, t0, cA, key _ _ h1, h2⟩
  | .inr (.inr (.inl (ty, l))), ⟨k, t0, cA, g, h1, h2⟩ => exact ⟨k, t0, cA, g, key _ _ h1, h2⟩
  | .inr (.inr (.inr (.inl (ci, fs)))), ⟨k, us, h1, h2⟩ => exact ⟨k, us, key _ _ h1, h2⟩
  | .inr (.inr (.inr (.inr _))), h => exact h
theorem rn_w_set {ad : List Nat} {b : Nat} {tys : List (ClassId × FieldType)} {w : List rn_C} {ws : va_W} {i a0 k0 : Nat} {c1 : rn_C} {e0 e1 : va_E} (h : rn_w ad b tys w ws) (ha : ad[i]? = some a0) (h0 : ws[k0]? = some (a0, e0)) (hc : rn_c ad b tys (ws.set k0 (a0, e1)) a0 c1) : rn_w ad b tys (w.set i c1) (ws.set k0 (a0, e1)) := by
  refine ⟨by rw [List.length_set]; exact h.1, h.2.1, fun j c hj => ?_⟩
  by_cases hji : i = j
  · subst hji
    have hl : i < w.length := by rw [← h.1]; exact (List.getElem?_eq_some_iff.mp ha).1
    rw [List.getElem?_set_self hl] at hj
    cases hj
    exact ⟨a0, ha, hc⟩
  · rw [List.getElem?_set_ne hji] at hj
    obtain ⟨a, g1, g2⟩ := h.2.2 j c hj
    exact ⟨a, g1, rn_c_set g2 h0 (fun q => hji (h.2.1 i j a0 ha (by rw [← q]; exact g1)))⟩
theorem rn_c_grow {ad l : List Nat} {b : Nat} {tys t2 : List (ClassId × FieldType)} {ws w2 : va_W} {a : Nat} {c : rn_C} (h : rn_c ad b tys ws a c) : rn_c (ad ++ l) b (tys ++ t2) (ws ++ w2) a c := by
  match c, h with
  | .inl (ty, n, f), ⟨k, t0, cA, h1, h2⟩ => exact ⟨k, t0, cA, rn_gl h1, rn_gl h2⟩
  | .inr (.inl (n, f)), ⟨k, t0, cA, h1, h2⟩ => exact ⟨k, t0, cA, rn_gl h1, rn_gl h2⟩
  | .inr (.inr (.inl (ty, l))), ⟨k, t0, cA, g, h1, h2, h3, h4⟩ => exact ⟨k, t0, cA, g, rn_gl h1, rn_gl h2, h3, fun j x hj => rn_r_grow (h4 j x hj)⟩
  | .inr (.inr (.inr (.inl (ci, fs)))), ⟨k, us, h1, h2⟩ => exact ⟨k, us, rn_gl h1, rn_vs_grow h2⟩
  | .inr (.inr (.inr (.inr _))), h => exact h
theorem rn_w_push {ad : List Nat} {b q : Nat} {tys t2 : List (ClassId × FieldType)} {w : List rn_C} {ws : va_W} {c1 : rn_C} {e1 : va_E} (h : rn_w ad b tys w ws) (hq : ∀ (j a : Nat), ad[j]? = some a → a ≠ q) (hc : rn_c (ad ++ [q]) b (tys ++ t2) (ws ++ [(q, e1)]) q c1) : rn_w (ad ++ [q]) b (tys ++ t2) (w ++ [c1]) (ws ++ [(q, e1)]) := by
  have key : ∀ (i a : Nat), (ad ++ [q])[i]? = some a → (i < ad.length ∧ ad[i]? = some a) ∨ (i = ad.length ∧ a = q) := by
    intro i a hi
    by_cases hl : i < ad.length
    · rw [List.getElem?_append_left hl] at hi
      exact Or.inl ⟨hl, hi⟩
    · rw [List.getElem?_append_right (by omega)] at hi
      have hz : i - ad.length < 1 := (List.getElem?_eq_some_iff.mp hi).1
      have e0 : i - ad.length = 0 := by omega
      rw [e0] at hi
      cases hi
      exact Or.inr ⟨by omega, rfl⟩
  refine ⟨by rw [List.length_append, List.length_append, h.1]; rfl, fun i j a hi hj => ?_, fun i c hi => ?_⟩
  · rcases key i a hi with ⟨h1, g1⟩ | ⟨h1, g1⟩ <;> rcases key j a hj with ⟨h2, g2⟩ | ⟨h2, g2⟩
    · exact h.2.1 i j a g1 g2
    · exact absurd g2 (hq i a g1)
    · exact absurd g1 (hq j a g2)
    · rw [h1, h2]
  · by_cases hl : i < w.length
    · rw [List.getElem?_append_left hl] at hi
      obtain ⟨a, g1, g2⟩ := h.2.2 i c hi
      exact ⟨a, rn_gl g1, rn_c_grow g2⟩
    · rw [List.getElem?_append_right (by omega)] at hi
      have hz : i - w.length < 1 := (List.getElem?_eq_some_iff.mp hi).1
      have e0 : i - w.length = 0 := by omega
      rw [e0] at hi
      cases hi
      have e1 : i = ad.length := by rw [h.1]; omega
      exact ⟨q, by rw [e1, List.getElem?_append_right (Nat.le_refl _), Nat.sub_self]; rfl, hc⟩
/-! what a throw needs of the heap: two statics of Throwable, and the texts -/
def rn_Ls (C n d : String) (A : Nat → Prop) (U : State) (H : Heap) : Prop := ∃ (c : ClassId) (k : Class) (i : Nat) (f : Field) (a : Nat) (cell : Cell), U.vm.findClass C = some c ∧ U.fieldFound? C n d = some (c, k, i, f) ∧ f.isStatic = true ∧ k.statics = some a ∧ H[a]? = some cell ∧ cell.vm.isStatics = true ∧ cell.cls = c ∧ f.slot < cell.slots.size ∧ k.staticTypes[f.slot]? = some f.type ∧ ¬ A a
def rn_Th (A : Nat → Prop) (U : State) (H : Heap) : Prop := (∀ z ∈ rn_zs, va_Zq z.1 z.2.1 z.2.2 A U H ∧ rn_Ls z.1 z.2.1 z.2.2 A U H) ∧ ∀ z ∈ rn_strs, ∃ a, vk_R z.1 z.2.1 z.2.2 a U
theorem rn_Th.alike {A : Nat → Prop} {s U : State} {H : Heap} (hvm : s.vm.Alike U.vm) {z : String × String × String} (h : va_Zq z.1 z.2.1 z.2.2 A s H ∧ rn_Ls z.1 z.2.1 z.2.2 A s H) : va_Zq z.1 z.2.1 z.2.2 A U H ∧ rn_Ls z.1 z.2.1 z.2.2 A U H := by
  obtain ⟨h0, c, k, i, f, a, cell, h1, h2, h3, h4, h5, h6, h7, h8, h9, h10⟩ := h
  obtain ⟨k', hi', he⟩ := State.fieldFound?_setVm hvm h2
  exact ⟨va_Zq.moved hvm h0, c, k', i, f, a, cell, by rw [hvm.findClass]; exact h1, hi', h3, by rw [he]; exact h4, h5, h6, h7, h8, by rw [he]; exact h9, h10⟩
theorem rn_Th.warm {A : Nat → Prop} {s U : State} {H : Heap} (hW : s.WarmedH U.vm) (h : rn_Th A s H) : rn_Th A U H := ⟨fun z hz => rn_Th.alike hW.alike (h.1 z hz), fun z hz => by
  obtain ⟨a, ha⟩ := h.2 z hz
  exact ⟨a, vk_R.warm hW ha⟩⟩
theorem rn_Th.same {A : Nat → Prop} {s U : State} {H : Heap} (hv : U.vm = s.vm) (h : rn_Th A s H) : rn_Th A U H := ⟨fun z hz => rn_Th.alike (by rw [hv]; exact Vm.Alike.refl s.vm) (h.1 z hz), fun z hz => by
  obtain ⟨a, ha⟩ := h.2 z hz
  exact ⟨a, vk_R.same hv ha⟩⟩
theorem rn_Th.kept {A : Nat → Prop} {U : State} {H H1 : Heap} (h : rn_Th A U H) (hq : ∀ a : Nat, a < H.size → ¬ A a → H1[a]? = H[a]?) : rn_Th A U H1 := ⟨fun z hz => by
  obtain ⟨h0, c, k, i, f, a, cell, h1, h2, h3, h4, h5, h6, h7, h8, h9, h10⟩ := h.1 z hz
  exact ⟨va_Zq.kept h0 hq, c, k, i, f, a, cell, h1, h2, h3, h4, by rw [hq a (Array.getElem?_eq_some_iff.mp h5).1 h10]; exact h5, h6, h7, h8, h9, h10⟩, h.2⟩
theorem rn_Th.narrow {A B : Nat → Prop} {U : State} {H : Heap} (h : rn_Th A U H) (hAB : ∀ q, B q → A q) : rn_Th B U H := ⟨fun z hz => by
  obtain ⟨h0, c, k, i, f, a, cell, h1, h2, h3, h4, h5, h6, h7, h8, h9, h10⟩ := h.1 z hz
  exact ⟨va_Zq.narrow h0 hAB, c, k, i, f, a, cell, h1, h2, h3, h4, h5, h6, h7, h8, h9, fun z => h10 (hAB _ z)⟩, h.2⟩
/-- the launch, the classes' numbers, the script (its address, length, values) -/
abbrev rn_Z : Type := Launch × va_G × Nat × Nat × (Nat → Int32)
/-- a method: name, code, locals, return type; how many frames and words it may nest -/
abbrev rn_M : Type := MethodName × ByteArray × Nat × Option FieldType × Nat × Nat
def rn_ws (M : rn_M) : List Cond := .code M.1 M.2.1 M.2.2.1 M.2.2.2.1 :: rn_tb
def rn_R (M : rn_M) (mc ms : Nat) : Room := { frames := M.2.2.2.2.1, cells := mc, slots := ms, locals := M.2.2.2.2.2 }
def rn_X (Z : rn_Z) (M : rn_M) (p : Program) (s : State) (m : MethodId) (args : Array Value) (meth : Method) (c : Code) (A : Nat → Prop) : Prop :=
  p.tables.exec = Jvm.exec ∧ c.code = M.2.1 ∧ c.maxLocals = M.2.2.1 ∧ s.vm.findClass M.1.cls = some m.cls ∧ (∀ w ∈ rn_tb, w.before args s = true) ∧ meth.locks = false ∧ meth.sig.returnType = M.2.2.2.1 ∧ meth.name = M.1.name ∧ (∀ q : Nat, s.heap.size ≤ q → A q) ∧ va_X Z.2.2.1 Z.2.2.2.1 Z.2.2.2.2 s s.heap ∧ Z.2.2.1 < s.heap.size ∧ ¬ A Z.2.2.1 ∧ rn_Th A s s.heap
def rn_Wd (Z : rn_Z) (A : Nat → Prop) (s : State) (H : Heap) (locs : List Loc) (ad : List Nat) (tys : List (ClassId × FieldType)) (w : List rn_C) (ws : va_W) : Prop :=
  rn_w ad Z.2.2.1 tys w ws ∧ va_P Z.2.1 rn_cl ws H ∧ va_K Z.2.1 rn_cl tys s ∧ va_D A ws ∧ va_S A s.heap H locs
def rn_L (ad : List Nat) (la : Array Slot) (n : Nat) (ls : List (Option Value)) : Prop := la.size = n ∧ lv_wf la ∧ ∀ (i : Nat) (v : Value), ls[i]? = some (some v) → ∃ u, rn_v ad v u ∧ la[i]? = some (.val u)
abbrev rn_K : Type := List Frame → Array Value → State → Nat → Nat → (Nat → Prop) → List Nat → State → Prop
def Rn (Z : rn_Z) (M : rn_M) (pc : Nat) (ls : List (Option Value)) (st : List Value) (w : List rn_C) (ca sa : Nat) (K : rn_K) : Prop :=
  ∀ (p : Program) (e : Env) (s : State) (m : MethodId) (args : Array Value) (below : List Frame) (meth : Method) (c : Code) (H : Heap) (locs : List Loc) (cells slots mc ms : Nat) (A : Nat → Prop) (ad0 ad : List Nat) (ws : va_W) (tys : List (ClassId × FieldType)) (la : Array Slot) (sta : List Value),
    rn_X Z M p s m args meth c A → rn_Wd Z A s H locs ad tys w ws → rn_L ad la M.2.2.1 ls → rn_vs ad st sta → (∃ l, ad = ad0 ++ l) → cells + ca ≤ mc → slots + sa ≤ ms →
    W p Z.1 e (rn_R M mc ms) s m args below meth c H locs cells slots (K below args s mc ms A ad0) (F0 m pc la sta)
theorem Rn.go {Z : rn_Z} {M : rn_M} {pc : Nat} {ls : List (Option Value)} {st : List Value} {w : List rn_C} {ca sa : Nat} {K : rn_K} (k : Rn Z M pc ls st w ca sa K) {p : Program} {e : Env} {s : State} {m : MethodId} {args : Array Value} {below : List Frame} {meth : Method} {c : Code} {H : Heap} {locs : List Loc} {cells slots mc ms : Nat} {A : Nat → Prop} {ad0 ad : List Nat} {ws : va_W} {tys : List (ClassId × FieldType)} {la : Array Slot} {sta : List Value}
    (hC : rn_X Z M p s m args meth c A) (hW : rn_Wd Z A s H locs ad tys w ws) (hL : rn_L ad la M.2.2.1 ls) (hS : rn_vs ad st sta) (hp : ∃ l, ad = ad0 ++ l) (h1 : cells + ca ≤ mc) (h2 : slots + sa ≤ ms) :
    W p Z.1 e (rn_R M mc ms) s m args below meth c H locs cells slots (K below args s mc ms A ad0) (F0 m pc la sta) := k _ _ _ _ _ _ _ _ _ _ _ _ _ _ _ _ _ _ _ _ _ hC hW hL hS hp h1 h2
def rn_oo (ad : List Nat) : Option Value → Option Value → Prop
  | none, v => v = none
  | some x, v => ∃ u, v = some u ∧ rn_v ad x u
/-- a method's end: it returned r, and the world is w -/
def rn_Q (Z : rn_Z) (A : Nat → Prop) (ad0 : List Nat) (r : Option Value) (w : List rn_C) : Array Value → State → Outcome → State → Prop := fun _ st o t =>
  (∃ (ad : List Nat) (ws : va_W) (tys : List (ClassId × FieldType)) (v : Option Value), (∃ l, ad = ad0 ++ l) ∧ o = .returned v ∧ rn_oo ad r v ∧ rn_w ad Z.2.2.1 tys w ws ∧ va_P Z.2.1 rn_cl ws t.heap ∧ va_K Z.2.1 rn_cl tys t ∧ va_D A ws) ∧ va_F A st t
def rn_Ret (Z : rn_Z) (r : Option Value) (w : List rn_C) : rn_K := fun below args s mc ms A ad0 => MQ below (rn_Q Z A ad0 r w) args s mc ms A
def rn_P (Z : rn_Z) (ws : va_W) (tys : List (ClassId × FieldType)) (av : List Value) (sz : Nat) : Array Value → State → Prop := va_Pc av (fun U => U.heap.size = sz ∧ va_P Z.2.1 rn_cl ws U.heap ∧ va_K Z.2.1 rn_cl tys U ∧ va_D (fun _ => True) ws ∧ va_X Z.2.2.1 Z.2.2.2.1 Z.2.2.2.2 U U.heap ∧ Z.2.2.1 < sz ∧ (∀ (k : Nat) (e : va_E), ws[k]? ≠ some (Z.2.2.1, e)) ∧ rn_Th (va_A ws sz) U U.heap)
/-- a method's contract: from the world w, with the arguments av, it returns r, and the world is w1; ca cells of sa slots may be made -/
def Call (Z : rn_Z) (M : rn_M) (av : List Value) (w : List rn_C) (ca sa : Nat) (r : Option Value) (w1 : List rn_C) : Prop :=
  ∀ (ad : List Nat) (ws : va_W) (tys : List (ClassId × FieldType)) (ava : List Value) (sz : Nat), rn_vs ad av ava → rn_w ad Z.2.2.1 tys w ws →
    Met Z.1 M.1 (rn_ws M) (rn_R M ca sa) (rn_P Z ws tys ava sz) (rn_Q Z (va_A ws sz) ad r w1) ca sa (va_A ws sz)
def rn_ent : List Value → List (Option Value)
  | [] => []
  | v :: vs => if v.category = 2 then some v :: none :: rn_ent vs else some v :: rn_ent vs
theorem rn_ent_len {ad : List Nat} : ∀ {av ava : List Value}, rn_vs ad av ava → (lg_sl ava).length = (rn_ent av).length
  | [], _, h => by
    have h : _ = _ := h
    subst h
    rfl
  | v :: vs, _, ⟨u, us, h1, h2, h3⟩ => by
    subst h1
    have hi := rn_ent_len h3
    have hc := rn_v_cat h2
    by_cases h : v.category = 2
    · have e1 : lg_sl (u :: us) = [.val u, .second] ++ lg_sl us := by simp [lg_sl, hc, h]
      have e2 : rn_ent (v :: vs) = some v :: none :: rn_ent vs := by simp [rn_ent, h]
      rw [e1, e2]
      simp [hi]
    · have e1 : lg_sl (u :: us) = [.val u] ++ lg_sl us := by simp [lg_sl, hc, h]
      have e2 : rn_ent (v :: vs) = some v :: rn_ent vs := by simp [rn_ent, h]
      rw [e1, e2]
      simp [hi]
theorem rn_ent_at {ad : List Nat} : ∀ {av ava : List Value} (n i : Nat) {v : Value}, rn_vs ad av ava → (rn_ent av)[i]? = some (some v) → ∃ u, rn_v ad v u ∧ (n + i, u) ∈ lv_args n ava
  | [], _, n, i, v, h, hi => by simp [rn_ent] at hi
  | x :: xs, _, n, i, v, ⟨u, us, h1, h2, h3⟩, hi => by
    subst h1
    have hc := rn_v_cat h2
    by_cases h : x.category = 2
    · have e2 : rn_ent (x :: xs) = some x :: none :: rn_ent xs := by simp [rn_ent, h]
      rw [e2] at hi
      have e1 : lv_args n (u :: us) = (n, u) :: lv_args (n + 2) us := by simp [lv_args, hc, h]
      rw [e1]
      match i, hi with
      | 0, hi =>
        rw [List.getElem?_cons_zero] at hi
        cases hi
        exact ⟨u, h2, List.mem_cons_self⟩
      | 1, hi => simp at hi
      | j + 2, hi =>
        rw [List.getElem?_cons_succ, List.getElem?_cons_succ] at hi
        obtain ⟨y, g1, g2⟩ := rn_ent_at (n + 2) j h3 hi
        refine ⟨y, g1, List.mem_cons_of_mem _ ?_⟩
        rw [show n + (j + 2) = n + 2 + j by omega]
        exact g2
    · have e2 : rn_ent (x :: xs) = some x :: rn_ent xs := by simp [rn_ent, h]
      rw [e2] at hi
      have e1 : lv_args n (u :: us) = (n, u) :: lv_args (n + 1) us := by simp [lv_args, hc, h]
      rw [e1]
      match i, hi with
      | 0, hi =>
        rw [List.getElem?_cons_zero] at hi
        cases hi
        exact ⟨u, h2, List.mem_cons_self⟩
      | j + 1, hi =>
        rw [List.getElem?_cons_succ] at hi
        obtain ⟨y, g1, g2⟩ := rn_ent_at (n + 1) j h3 hi
        refine ⟨y, g1, List.mem_cons_of_mem _ ?_⟩
        rw [show n + (j + 1) = n + 1 + j by omega]
        exact g2
theorem rn_ent_L {ad : List Nat} {av ava : List Value} {n k : Nat} (h : rn_vs ad av ava) (hn : (rn_ent av).length ≤ n) : rn_L ad ((lg_sl ava ++ List.replicate (n - (lg_sl ava).length) Slot.unset).toArray) n (rn_ent av ++ List.replicate k none) := by
  obtain ⟨h1, h2, h3⟩ := lv_entry ava (n := n) (by rw [rn_ent_len h]; exact hn)
  refine ⟨h1, h2, fun i v hi => ?_⟩
  by_cases hl : i < (rn_ent av).length
  · rw [List.getElem?_append_left hl] at hi
    obtain ⟨u, g1, g2⟩ := rn_ent_at 0 i h hi
    rw [Nat.zero_add] at g2
    exact ⟨u, g1, h3 _ g2⟩
  · rw [List.getElem?_append_right (by omega)] at hi
    have := List.eq_of_mem_replicate (List.mem_of_getElem? hi)
    cases this
theorem rn_L_grow {ad l : List Nat} {la : Array Slot} {n : Nat} {ls : List (Option Value)} (h : rn_L ad la n ls) : rn_L (ad ++ l) la n ls := ⟨h.1, h.2.1, fun i v hi => by
  obtain ⟨u, g1, g2⟩ := h.2.2 i v hi
  exact ⟨u, rn_v_grow g1, g2⟩⟩
/-- fewer locals are known -/
def rn_le : List (Option Value) → List (Option Value) → Prop
  | [], _ => True
  | none :: xs, ys => rn_le xs ys.tail
  | some v :: xs, ys => ys.head? = some (some v) ∧ rn_le xs ys.tail
theorem rn_le_at : ∀ {xs ys : List (Option Value)} {i : Nat} {v : Value}, rn_le xs ys → xs[i]? = some (some v) → ys[i]? = some (some v)
  | [], _, i, v, _, h => by simp at h
  | none :: xs, ys, 0, v, _, h => by simp at h
  | none :: xs, ys, i + 1, v, hl, h => by
    rw [List.getElem?_cons_succ] at h
    have := rn_le_at (xs := xs) (ys := ys.tail) hl h
    cases ys with
    | nil => simp at this
    | cons y ys => rw [List.getElem?_cons_succ]; exact this
  | some x :: xs, ys, 0, v, hl, h => by
    rw [List.getElem?_cons_zero] at h
    cases h
    have := hl.1
    cases ys with
    | nil => simp at this
    | cons y ys => rw [List.head?_cons] at this; rw [List.getElem?_cons_zero]; exact this
  | some x :: xs, ys, i + 1, v, hl, h => by
    rw [List.getElem?_cons_succ] at h
    have := rn_le_at (xs := xs) (ys := ys.tail) hl.2 h
    cases ys with
    | nil => simp at this
    | cons y ys => rw [List.getElem?_cons_succ]; exact this
theorem rn_le_0 {ys : List (Option Value)} : rn_le [] ys := trivial
theorem rn_le_s {v : Value} {xs ys : List (Option Value)} (h : rn_le xs ys) : rn_le (some v :: xs) (some v :: ys) := ⟨rfl, h⟩
theorem rn_le_x {y : Option Value} {xs ys : List (Option Value)} (h : rn_le xs ys) : rn_le (none :: xs) (y :: ys) := h
theorem rn_bind {α β : Type} {o : Option α} {k : α → Option β} {y : β} (h : Option.bind o k = some y) : ∃ x, o = some x ∧ k x = some y := by
  cases o with
  | none => cases h
  | some x => exact ⟨x, rfl, h⟩
theorem rn_ifp {α : Type} {c : Prop} [Decidable c] {a b r : α} (hc : c) (h : (if c then a else b) = r) : a = r := by rwa [if_pos hc] at h
theorem rn_ifn {α : Type} {c : Prop} [Decidable c] {a b r : α} (hc : ¬ c) (h : (if c then a else b) = r) : b = r := by rwa [if_neg hc] at h
theorem rn_inc_1 (x : Int32) : x + Int32.ofInt 1 = x + 1 := congrArg (fun z => x + z) (by decide)
theorem rn_inc_4 (x : Int32) : x + Int32.ofInt 4 = x + 4 := congrArg (fun z => x + z) (by decide)
theorem rn_inc_m1 (x : Int32) : x + Int32.ofInt (-1) = x + (-1) := congrArg (fun z => x + z) (by decide)
def rn_bl (x : Int32) : Option Int32 := if x = 0 then some x else if x = 1 then some x else none
theorem rn_bl_some {x y : Int32} (h : rn_bl x = some y) : y = x ∧ (x = 0 ∨ x = 1) := by
  unfold rn_bl at h
  split at h
  next h0 => exact ⟨(Option.some.inj h).symm, Or.inl h0⟩
  next =>
    split at h
    next h1 => exact ⟨(Option.some.inj h).symm, Or.inr h1⟩
    next => cases h
abbrev rn_fu : Nat := 1000000
def up2 {α : Type} (f : Nat → Nat → α) (j : Nat) (g : Nat → α) : Nat → Nat → α := fun k => if k = j then g else f k
/-! storing a local -/
def rn_two : Option Value → Bool
  | some (.long _) => true
  | some (.double _) => true
  | _ => false
theorem rn_two_of {v : Value} (h : v.category = 2) : rn_two (some v) = true := by
  cases v <;> first | rfl | (simp [Value.category] at h)
def rn_s1 : List (Option Value) → Nat → Value → List (Option Value)
  | [], _, _ => []
  | _ :: t, 0, v => some v :: t
  | a :: t, i + 1, v => (bif (i == 0) && rn_two a then none else a) :: rn_s1 t i v
theorem rn_s1_at : ∀ {ls : List (Option Value)} {i j : Nat} {v x : Value}, (rn_s1 ls i v)[j]? = some (some x) → (j = i ∧ x = v) ∨ (j ≠ i ∧ ls[j]? = some (some x) ∧ ¬ (j + 1 = i ∧ x.category = 2))
  | [], i, j, v, x, h => by simp [rn_s1] at h
  | a :: t, 0, j, v, x, h => by
    rw [rn_s1] at h
    cases j with
    | zero =>
      rw [List.getElem?_cons_zero] at h
      cases h
      exact Or.inl ⟨rfl, rfl⟩
    | succ j =>
      rw [List.getElem?_cons_succ] at h
      exact Or.inr ⟨by omega, by rw [List.getElem?_cons_succ]; exact h, by omega⟩
  | a :: t, i + 1, j, v, x, h => by
    rw [rn_s1] at h
    cases j with
    | zero =>
      rw [List.getElem?_cons_zero] at h
      cases hb : ((i == 0) && rn_two a) with
      | true => rw [hb] at h; cases h
      | false =>
        rw [hb] at h
        have h : some a = some (some x) := h
        have ha : a = some x := Option.some.inj h
        refine Or.inr ⟨by omega, by rw [List.getElem?_cons_zero]; exact h, fun q => ?_⟩
        rw [ha, rn_two_of q.2] at hb
        have e0 : i = 0 := by omega
        rw [e0] at hb
        cases hb
    | succ j =>
      rw [List.getElem?_cons_succ] at h
      rcases rn_s1_at h with ⟨h1, h2⟩ | ⟨h1, h2, h3⟩
      · exact Or.inl ⟨by omega, h2⟩
      · exact Or.inr ⟨by omega, by rw [List.getElem?_cons_succ]; exact h2, fun q => h3 ⟨by omega, q.2⟩⟩
def rn_s2 (ls : List (Option Value)) (i : Nat) (v : Value) : List (Option Value) := (rn_s1 ls i v).set (i + 1) none
theorem rn_s2_at {ls : List (Option Value)} {i j : Nat} {v x : Value} (h : (rn_s2 ls i v)[j]? = some (some x)) : (j = i ∧ x = v) ∨ (j ≠ i ∧ j ≠ i + 1 ∧ ls[j]? = some (some x) ∧ ¬ (j + 1 = i ∧ x.category = 2)) := by
  unfold rn_s2 at h
  by_cases hj : i + 1 = j
  · subst hj
    rw [List.getElem?_set] at h
    simp at h
  · rw [List.getElem?_set_ne hj] at h
    rcases rn_s1_at h with h1 | ⟨h1, h2, h3⟩
    · exact Or.inl h1
    · exact Or.inr ⟨h1, fun q => hj q.symm, h2, h3⟩
def rn_av (la : Array Slot) (n : Nat) : List (Nat × Value) := (List.range n).filterMap fun (j : Nat) => match la[j]? with
  | some (Slot.val u) => some (j, u)
  | _ => none
theorem rn_av_in {la : Array Slot} {n j : Nat} {u : Value} (hn : la.size = n) (h : la[j]? = some (.val u)) : (j, u) ∈ rn_av la n := by
  have hj : j < n := by rw [← hn]; exact (Array.getElem?_eq_some_iff.mp h).1
  exact List.mem_filterMap.mpr ⟨j, List.mem_range.mpr hj, by rw [h]⟩
theorem rn_av_has {la : Array Slot} {n : Nat} (hn : la.size = n) (hw : lv_wf la) : lv_has la n (rn_av la n) := by
  refine ⟨hn, hw, fun q hq => ?_⟩
  obtain ⟨j, -, hj⟩ := List.mem_filterMap.mp hq
  cases hl : la[j]? with
  | none => rw [hl] at hj; cases hj
  | some x =>
    rw [hl] at hj
    cases x with
    | val u => cases hj; exact hl
    | _ => cases hj
theorem rn_L1 {ad : List Nat} {la la' : Array Slot} {n i : Nat} {ls : List (Option Value)} {v u : Value} (h : rn_L ad la n ls) (hv : rn_v ad v u) (h' : lv_has la' n ((i, u) :: (rn_av la n).filter (fun q => !(q.1 == i) && !(q.1 + 1 == i && q.2.category == 2)))) : rn_L ad la' n (rn_s1 ls i v) := by
  refine ⟨h'.1, h'.2.1, fun j x hj => ?_⟩
  rcases rn_s1_at hj with ⟨h1, h2⟩ | ⟨h1, h2, h3⟩
  · subst h1; subst h2
    exact ⟨u, hv, h'.2.2 _ List.mem_cons_self⟩
  · obtain ⟨y, g1, g2⟩ := h.2.2 j x h2
    refine ⟨y, g1, h'.2.2 (j, y) (List.mem_cons_of_mem _ (List.mem_filter.mpr ⟨rn_av_in h.1 g2, ?_⟩))⟩
    have hc := rn_v_cat g1
    by_cases h4 : j + 1 = i
    · have h5 : ¬ x.category = 2 := fun q => h3 ⟨h4, q⟩
      simp [h1, hc, h5]
    · simp [h1, h4]
theorem rn_L2 {ad : List Nat} {la la' : Array Slot} {n i : Nat} {ls : List (Option Value)} {v u : Value} (h : rn_L ad la n ls) (hv : rn_v ad v u) (h' : lv_has la' n ((i, u) :: (rn_av la n).filter (fun q => !(q.1 == i) && (!(q.1 == i + 1) && !(q.1 + 1 == i && q.2.category == 2))))) : rn_L ad la' n (rn_s2 ls i v) := by
  refine ⟨h'.1, h'.2.1, fun j x hj => ?_⟩
  rcases rn_s2_at hj with ⟨h1, h2⟩ | ⟨h1, h1', h2, h3⟩
  · subst h1; subst h2
    exact ⟨u, hv, h'.2.2 _ List.mem_cons_self⟩
  · obtain ⟨y, g1, g2⟩ := h.2.2 j x h2
    refine ⟨y, g1, h'.2.2 (j, y) (List.mem_cons_of_mem _ (List.mem_filter.mpr ⟨rn_av_in h.1 g2, ?_⟩))⟩
    have hc := rn_v_cat g1
    by_cases h4 : j + 1 = i
    · have h5 : ¬ x.category = 2 := fun q => h3 ⟨h4, q⟩
      simp [h1, h1', hc, h5]
    · simp [h1, h1', h4]
section
variable {Z : rn_Z} {M : rn_M} {pc : Nat} {ls : List (Option Value)} {st : List Value} {w : List rn_C} {ca sa : Nat} {K : rn_K}
/-- the start -/
theorem rn_call {av : List Value} {r : Option Value} {w1 : List rn_C} (hp : plainName M.1.cls = true) (n : Nat) (hn : (rn_ent av).length ≤ M.2.2.1) (k : Rn Z M 0 (rn_ent av ++ List.replicate n none) [] w ca sa (rn_Ret Z r w1)) : Call Z M av w ca sa r w1 := by
  intro ad ws tys ava sz hav hw
  refine Met.ofW (cc := M.2.1) (maxL := M.2.2.1) (ret := M.2.2.2.1) hp rfl ?_
  intro p e s m args below meth c s₁ B hml hv
  obtain ⟨rfl, hsz, hP, hK, hD0, hX, hb, hbn, hTh⟩ := hv
  subst hsz
  have hts := atoms_spec (ws := rn_ws M) B.pre
  rw [lg_entry_eq]
  refine k.go ⟨B.exec, B.bytes, hml, findClass_of_methodNamed B.named, fun w h => hts w (List.mem_cons_of_mem _ h), B.notSynchronized, B.returns, (name_of_methodNamed B.named B.method).1, fun q h => Or.inr h, hX, hb, ?_, hTh⟩ ⟨hw, hP, hK, hD0.self, va_S.rf⟩ (rn_ent_L hav hn) rfl ⟨[], by simp⟩ (by omega) (by omega)
  intro q
  rcases q with ⟨k1, e1, h1⟩ | h1
  · exact hbn k1 e1 h1
  · omega
theorem rn_weak (ls' : List (Option Value)) (h : rn_le ls' ls) (k : Rn Z M pc ls' st w ca sa K) : Rn Z M pc ls st w ca sa K := by
  intro p e s m args below meth c H locs cells slots mc ms A ad0 ad ws tys la sta hC hW hL hS hp h1 h2
  exact k.go hC hW ⟨hL.1, hL.2.1, fun i v hi => hL.2.2 i v (rn_le_at h hi)⟩ hS hp h1 h2
theorem rn_room {ca' sa' : Nat} (h1 : ca' ≤ ca) (h2 : sa' ≤ sa) (k : Rn Z M pc ls st w ca' sa' K) : Rn Z M pc ls st w ca sa K := by
  intro p e s m args below meth c H locs cells slots mc ms A ad0 ad ws tys la sta hC hW hL hS hp g1 g2
  exact k.go hC hW hL hS hp (by omega) (by omega)
theorem rn_iconst {n : Int} {v : Int32} (hd : decode M.2.1 pc = .ok (.iconst n, 1)) (hv : Int32.ofInt n = v) (k : Rn Z M (pc + 1) ls (.int v :: st) w ca sa K) : Rn Z M pc ls st w ca sa K := by
  intro p e s m args below meth c H locs cells slots mc ms A ad0 ad ws tys la sta hC hW hL hS hp h1 h2
  exact lv_iconst hC.1 hC.2.1 hd hv (k.go hC hW hL ⟨_, _, rfl, rfl, hS⟩ hp h1 h2)
theorem rn_bipush {n : Int} {v : Int32} (hd : decode M.2.1 pc = .ok (.bipush n, 2)) (hv : (Int8.ofInt n).toInt32 = v) (k : Rn Z M (pc + 2) ls (.int v :: st) w ca sa K) : Rn Z M pc ls st w ca sa K := by
  intro p e s m args below meth c H locs cells slots mc ms A ad0 ad ws tys la sta hC hW hL hS hp h1 h2
  exact lv_bipush hC.1 hC.2.1 hd hv (k.go hC hW hL ⟨_, _, rfl, rfl, hS⟩ hp h1 h2)
theorem rn_sipush {n : Int} {v : Int32} (hd : decode M.2.1 pc = .ok (.sipush n, 3)) (hv : (Int16.ofInt n).toInt32 = v) (k : Rn Z M (pc + 3) ls (.int v :: st) w ca sa K) : Rn Z M pc ls st w ca sa K := by
  intro p e s m args below meth c H locs cells slots mc ms A ad0 ad ws tys la sta hC hW hL hS hp h1 h2
  exact lv_sipush hC.1 hC.2.1 hd hv (k.go hC hW hL ⟨_, _, rfl, rfl, hS⟩ hp h1 h2)
theorem rn_lconst {n : Fin 2} {v : Int64} (hd : decode M.2.1 pc = .ok (.lconst n, 1)) (hv : Int64.ofNat (n : Nat) = v) (k : Rn Z M (pc + 1) ls (.long v :: st) w ca sa K) : Rn Z M pc ls st w ca sa K := by
  intro p e s m args below meth c H locs cells slots mc ms A ad0 ad ws tys la sta hC hW hL hS hp h1 h2
  exact lv_lconst hC.1 hC.2.1 hd hv (k.go hC hW hL ⟨_, _, rfl, rfl, hS⟩ hp h1 h2)
theorem rn_ldc2 {idx : Nat} {v : Int64} (hd : decode M.2.1 pc = .ok (.ldc2_w idx, 3)) (hv : Cond.constantLong M.1.cls idx v ∈ rn_tb) (k : Rn Z M (pc + 3) ls (.long v :: st) w ca sa K) : Rn Z M pc ls st w ca sa K := by
  intro p e s m args below meth c H locs cells slots mc ms A ad0 ad ws tys la sta hC hW hL hS hp h1 h2
  exact lv_ldc2 hC.1 hC.2.1 hC.2.2.2.1 (hC.2.2.2.2.1 _ hv) hd (k.go hC hW hL ⟨_, _, rfl, rfl, hS⟩ hp h1 h2)
theorem rn_ldcw {idx : Nat} {v : Int32} (hd : decode M.2.1 pc = .ok (.ldc_w idx, 3)) (hv : Cond.constant M.1.cls idx v ∈ rn_tb) (k : Rn Z M (pc + 3) ls (.int v :: st) w ca sa K) : Rn Z M pc ls st w ca sa K := by
  intro p e s m args below meth c H locs cells slots mc ms A ad0 ad ws tys la sta hC hW hL hS hp h1 h2
  exact lv_ldcw hC.1 hC.2.1 hC.2.2.2.1 (hC.2.2.2.2.1 _ hv) hd (k.go hC hW hL ⟨_, _, rfl, rfl, hS⟩ hp h1 h2)
theorem rn_iload {i : Nat} {x : Int32} (hd : decode M.2.1 pc = .ok (.iload i, 2)) (hl : ls[i]? = some (some (.int x))) (k : Rn Z M (pc + 2) ls (.int x :: st) w ca sa K) : Rn Z M pc ls st w ca sa K := by
  intro p e s m args below meth c H locs cells slots mc ms A ad0 ad ws tys la sta hC hW hL hS hp h1 h2
  obtain ⟨u, rfl, hu⟩ := hL.2.2 _ _ hl
  exact lv_iload hC.1 hC.2.1 hd hu (k.go hC hW hL ⟨_, _, rfl, rfl, hS⟩ hp h1 h2)
theorem rn_iload_n {i : Fin 4} {x : Int32} (hd : decode M.2.1 pc = .ok (.iload_n i, 1)) (hl : ls[(i : Nat)]? = some (some (.int x))) (k : Rn Z M (pc + 1) ls (.int x :: st) w ca sa K) : Rn Z M pc ls st w ca sa K := by
  intro p e s m args below meth c H locs cells slots mc ms A ad0 ad ws tys la sta hC hW hL hS hp h1 h2
  obtain ⟨u, rfl, hu⟩ := hL.2.2 _ _ hl
  exact lv_iload_n hC.1 hC.2.1 hd rfl hu (k.go hC hW hL ⟨_, _, rfl, rfl, hS⟩ hp h1 h2)
theorem rn_lload {i : Nat} {x : Int64} (hd : decode M.2.1 pc = .ok (.lload i, 2)) (hl : ls[i]? = some (some (.long x))) (k : Rn Z M (pc + 2) ls (.long x :: st) w ca sa K) : Rn Z M pc ls st w ca sa K := by
  intro p e s m args below meth c H locs cells slots mc ms A ad0 ad ws tys la sta hC hW hL hS hp h1 h2
  obtain ⟨u, rfl, hu⟩ := hL.2.2 _ _ hl
  exact lv_lload hC.1 hC.2.1 hd hu (k.go hC hW hL ⟨_, _, rfl, rfl, hS⟩ hp h1 h2)
theorem rn_lload_n {i : Fin 4} {x : Int64} (hd : decode M.2.1 pc = .ok (.lload_n i, 1)) (hl : ls[(i : Nat)]? = some (some (.long x))) (k : Rn Z M (pc + 1) ls (.long x :: st) w ca sa K) : Rn Z M pc ls st w ca sa K := by
  intro p e s m args below meth c H locs cells slots mc ms A ad0 ad ws tys la sta hC hW hL hS hp h1 h2
  obtain ⟨u, rfl, hu⟩ := hL.2.2 _ _ hl
  exact lv_lload_n hC.1 hC.2.1 hd rfl hu (k.go hC hW hL ⟨_, _, rfl, rfl, hS⟩ hp h1 h2)
theorem rn_aload {i : Nat} {x : Nat} (hd : decode M.2.1 pc = .ok (.aload i, 2)) (hl : ls[i]? = some (some (.ref x))) (k : Rn Z M (pc + 2) ls (.ref x :: st) w ca sa K) : Rn Z M pc ls st w ca sa K := by
  intro p e s m args below meth c H locs cells slots mc ms A ad0 ad ws tys la sta hC hW hL hS hp h1 h2
  obtain ⟨u, ⟨a, ha, rfl⟩, hu⟩ := hL.2.2 _ _ hl
  exact lv_aload hC.1 hC.2.1 hd hu (k.go hC hW hL ⟨_, _, rfl, ⟨a, ha, rfl⟩, hS⟩ hp h1 h2)
theorem rn_aload_n {i : Fin 4} {x : Nat} (hd : decode M.2.1 pc = .ok (.aload_n i, 1)) (hl : ls[(i : Nat)]? = some (some (.ref x))) (k : Rn Z M (pc + 1) ls (.ref x :: st) w ca sa K) : Rn Z M pc ls st w ca sa K := by
  intro p e s m args below meth c H locs cells slots mc ms A ad0 ad ws tys la sta hC hW hL hS hp h1 h2
  obtain ⟨u, ⟨a, ha, rfl⟩, hu⟩ := hL.2.2 _ _ hl
  exact lv_aload_n hC.1 hC.2.1 hd rfl hu (k.go hC hW hL ⟨_, _, rfl, ⟨a, ha, rfl⟩, hS⟩ hp h1 h2)
theorem rn_istore {i : Nat} {x : Int32} {ls' : List (Option Value)} (hd : decode M.2.1 pc = .ok (.istore i, 2)) (hi : i < M.2.2.1) (hl : rn_s1 ls i (.int x) = ls') (k : Rn Z M (pc + 2) ls' st w ca sa K) : Rn Z M pc ls (.int x :: st) w ca sa K := by
  intro p e s m args below meth c H locs cells slots mc ms A ad0 ad ws tys la sta hC hW hL hS hp h1 h2
  obtain ⟨_, _, rfl, rfl, hS⟩ := hS
  subst hl
  exact lv_istore hC.1 hC.2.1 hd (rn_av_has hL.1 hL.2.1) hi rfl (fun la1 h3 => k.go hC hW (rn_L1 hL rfl h3) hS hp h1 h2)
theorem rn_lstore {i : Nat} {x : Int64} {ls' : List (Option Value)} (hd : decode M.2.1 pc = .ok (.lstore i, 2)) (hi : i + 1 < M.2.2.1) (hl : rn_s2 ls i (.long x) = ls') (k : Rn Z M (pc + 2) ls' st w ca sa K) : Rn Z M pc ls (.long x :: st) w ca sa K := by
  intro p e s m args below meth c H locs cells slots mc ms A ad0 ad ws tys la sta hC hW hL hS hp h1 h2
  obtain ⟨_, _, rfl, rfl, hS⟩ := hS
  subst hl
  exact lv_lstore hC.1 hC.2.1 hd (rn_av_has hL.1 hL.2.1) hi rfl (fun la1 h3 => k.go hC hW (rn_L2 hL rfl h3) hS hp h1 h2)
theorem rn_astore {i : Nat} {x : Nat} {ls' : List (Option Value)} (hd : decode M.2.1 pc = .ok (.astore i, 2)) (hi : i < M.2.2.1) (hl : rn_s1 ls i (.ref x) = ls') (k : Rn Z M (pc + 2) ls' st w ca sa K) : Rn Z M pc ls (.ref x :: st) w ca sa K := by
  intro p e s m args below meth c H locs cells slots mc ms A ad0 ad ws tys la sta hC hW hL hS hp h1 h2
  obtain ⟨_, _, rfl, ⟨a, ha, rfl⟩, hS⟩ := hS
  subst hl
  exact lv_astore hC.1 hC.2.1 hd (rn_av_has hL.1 hL.2.1) hi rfl (fun la1 h3 => k.go hC hW (rn_L1 hL ⟨a, ha, rfl⟩ h3) hS hp h1 h2)
theorem rn_istore_n {i : Fin 4} {x : Int32} {ls' : List (Option Value)} (hd : decode M.2.1 pc = .ok (.istore_n i, 1)) (hi : (i : Nat) < M.2.2.1) (hl : rn_s1 ls (i : Nat) (.int x) = ls') (k : Rn Z M (pc + 1) ls' st w ca sa K) : Rn Z M pc ls (.int x :: st) w ca sa K := by
  intro p e s m args below meth c H locs cells slots mc ms A ad0 ad ws tys la sta hC hW hL hS hp h1 h2
  obtain ⟨_, _, rfl, rfl, hS⟩ := hS
  subst hl
  exact lv_istore_n hC.1 hC.2.1 hd rfl (rn_av_has hL.1 hL.2.1) hi rfl (fun la1 h3 => k.go hC hW (rn_L1 hL rfl h3) hS hp h1 h2)
theorem rn_lstore_n {i : Fin 4} {x : Int64} {ls' : List (Option Value)} (hd : decode M.2.1 pc = .ok (.lstore_n i, 1)) (hi : (i : Nat) + 1 < M.2.2.1) (hl : rn_s2 ls (i : Nat) (.long x) = ls') (k : Rn Z M (pc + 1) ls' st w ca sa K) : Rn Z M pc ls (.long x :: st) w ca sa K := by
  intro p e s m args below meth c H locs cells slots mc ms A ad0 ad ws tys la sta hC hW hL hS hp h1 h2
  obtain ⟨_, _, rfl, rfl, hS⟩ := hS
  subst hl
  exact lv_lstore_n hC.1 hC.2.1 hd rfl (rn_av_has hL.1 hL.2.1) hi rfl (fun la1 h3 => k.go hC hW (rn_L2 hL rfl h3) hS hp h1 h2)
theorem rn_astore_n {i : Fin 4} {x : Nat} {ls' : List (Option Value)} (hd : decode M.2.1 pc = .ok (.astore_n i, 1)) (hi : (i : Nat) < M.2.2.1) (hl : rn_s1 ls (i : Nat) (.ref x) = ls') (k : Rn Z M (pc + 1) ls' st w ca sa K) : Rn Z M pc ls (.ref x :: st) w ca sa K := by
  intro p e s m args below meth c H locs cells slots mc ms A ad0 ad ws tys la sta hC hW hL hS hp h1 h2
  obtain ⟨_, _, rfl, ⟨a, ha, rfl⟩, hS⟩ := hS
  subst hl
  exact lv_astore_n hC.1 hC.2.1 hd rfl (rn_av_has hL.1 hL.2.1) hi rfl (fun la1 h3 => k.go hC hW (rn_L1 hL ⟨a, ha, rfl⟩ h3) hS hp h1 h2)
theorem rn_iinc {i : Nat} {n : Int} {x v : Int32} {ls' : List (Option Value)} (hd : decode M.2.1 pc = .ok (.iinc i n, 3)) (hi : i < M.2.2.1) (hx : ls[i]? = some (some (.int x))) (hv : x + Int32.ofInt n = v) (hl : rn_s1 ls i (.int v) = ls') (k : Rn Z M (pc + 3) ls' st w ca sa K) : Rn Z M pc ls st w ca sa K := by
  intro p e s m args below meth c H locs cells slots mc ms A ad0 ad ws tys la sta hC hW hL hS hp h1 h2
  obtain ⟨u, rfl, hu⟩ := hL.2.2 _ _ hx
  subst hl
  obtain ⟨k0, hk0⟩ := List.getElem?_of_mem (rn_av_in hL.1 hu)
  exact lv_iinc hC.1 hC.2.1 hd (rn_av_has hL.1 hL.2.1) hk0 hv hi rfl (fun la1 h3 => k.go hC hW (rn_L1 hL rfl h3) hS hp h1 h2)
theorem rn_iadd {x : Int32} {y : Int32} (hd : decode M.2.1 pc = .ok (.iadd, 1)) (k : Rn Z M (pc + 1) ls (.int (x + y) :: st) w ca sa K) : Rn Z M pc ls (.int y :: .int x :: st) w ca sa K := by
  intro p e s m args below meth c H locs cells slots mc ms A ad0 ad ws tys la sta hC hW hL hS hp h1 h2
  obtain ⟨_, _, rfl, rfl, _, _, rfl, rfl, hS⟩ := hS
  exact lv_iadd hC.1 hC.2.1 hd (k.go hC hW hL ⟨_, _, rfl, rfl, hS⟩ hp h1 h2)
theorem rn_isub {x : Int32} {y : Int32} (hd : decode M.2.1 pc = .ok (.isub, 1)) (k : Rn Z M (pc + 1) ls (.int (x - y) :: st) w ca sa K) : Rn Z M pc ls (.int y :: .int x :: st) w ca sa K := by
  intro p e s m args below meth c H locs cells slots mc ms A ad0 ad ws tys la sta hC hW hL hS hp h1 h2
  obtain ⟨_, _, rfl, rfl, _, _, rfl, rfl, hS⟩ := hS
  exact lv_isub hC.1 hC.2.1 hd (k.go hC hW hL ⟨_, _, rfl, rfl, hS⟩ hp h1 h2)
theorem rn_imul {x : Int32} {y : Int32} (hd : decode M.2.1 pc = .ok (.imul, 1)) (k : Rn Z M (pc + 1) ls (.int (x * y) :: st) w ca sa K) : Rn Z M pc ls (.int y :: .int x :: st) w ca sa K := by
  intro p e s m args below meth c H locs cells slots mc ms A ad0 ad ws tys la sta hC hW hL hS hp h1 h2
  obtain ⟨_, _, rfl, rfl, _, _, rfl, rfl, hS⟩ := hS
  exact lv_imul hC.1 hC.2.1 hd (k.go hC hW hL ⟨_, _, rfl, rfl, hS⟩ hp h1 h2)
theorem rn_iand {x : Int32} {y : Int32} (hd : decode M.2.1 pc = .ok (.iand, 1)) (k : Rn Z M (pc + 1) ls (.int (x &&& y) :: st) w ca sa K) : Rn Z M pc ls (.int y :: .int x :: st) w ca sa K := by
  intro p e s m args below meth c H locs cells slots mc ms A ad0 ad ws tys la sta hC hW hL hS hp h1 h2
  obtain ⟨_, _, rfl, rfl, _, _, rfl, rfl, hS⟩ := hS
  exact lv_iand hC.1 hC.2.1 hd (k.go hC hW hL ⟨_, _, rfl, rfl, hS⟩ hp h1 h2)
theorem rn_ior {x : Int32} {y : Int32} (hd : decode M.2.1 pc = .ok (.ior, 1)) (k : Rn Z M (pc + 1) ls (.int (x ||| y) :: st) w ca sa K) : Rn Z M pc ls (.int y :: .int x :: st) w ca sa K := by
  intro p e s m args below meth c H locs cells slots mc ms A ad0 ad ws tys la sta hC hW hL hS hp h1 h2
  obtain ⟨_, _, rfl, rfl, _, _, rfl, rfl, hS⟩ := hS
  exact lv_ior hC.1 hC.2.1 hd (k.go hC hW hL ⟨_, _, rfl, rfl, hS⟩ hp h1 h2)
theorem rn_ishl {x : Int32} {y : Int32} (hd : decode M.2.1 pc = .ok (.ishl, 1)) (k : Rn Z M (pc + 1) ls (.int (x <<< (y &&& 31)) :: st) w ca sa K) : Rn Z M pc ls (.int y :: .int x :: st) w ca sa K := by
  intro p e s m args below meth c H locs cells slots mc ms A ad0 ad ws tys la sta hC hW hL hS hp h1 h2
  obtain ⟨_, _, rfl, rfl, _, _, rfl, rfl, hS⟩ := hS
  exact lv_ishl hC.1 hC.2.1 hd (k.go hC hW hL ⟨_, _, rfl, rfl, hS⟩ hp h1 h2)
theorem rn_ishr {x : Int32} {y : Int32} (hd : decode M.2.1 pc = .ok (.ishr, 1)) (k : Rn Z M (pc + 1) ls (.int (x >>> (y &&& 31)) :: st) w ca sa K) : Rn Z M pc ls (.int y :: .int x :: st) w ca sa K := by
  intro p e s m args below meth c H locs cells slots mc ms A ad0 ad ws tys la sta hC hW hL hS hp h1 h2
  obtain ⟨_, _, rfl, rfl, _, _, rfl, rfl, hS⟩ := hS
  exact lv_ishr hC.1 hC.2.1 hd (k.go hC hW hL ⟨_, _, rfl, rfl, hS⟩ hp h1 h2)
theorem rn_irem {x : Int32} {y : Int32} (hd : decode M.2.1 pc = .ok (.irem, 1)) (hne : ¬ y = 0) (k : Rn Z M (pc + 1) ls (.int (x - x / y * y) :: st) w ca sa K) : Rn Z M pc ls (.int y :: .int x :: st) w ca sa K := by
  intro p e s m args below meth c H locs cells slots mc ms A ad0 ad ws tys la sta hC hW hL hS hp h1 h2
  obtain ⟨_, _, rfl, rfl, _, _, rfl, rfl, hS⟩ := hS
  exact lv_irem hC.1 hC.2.1 hd hne (k.go hC hW hL ⟨_, _, rfl, rfl, hS⟩ hp h1 h2)
theorem rn_ladd {x : Int64} {y : Int64} (hd : decode M.2.1 pc = .ok (.ladd, 1)) (k : Rn Z M (pc + 1) ls (.long (x + y) :: st) w ca sa K) : Rn Z M pc ls (.long y :: .long x :: st) w ca sa K := by
  intro p e s m args below meth c H locs cells slots mc ms A ad0 ad ws tys la sta hC hW hL hS hp h1 h2
  obtain ⟨_, _, rfl, rfl, _, _, rfl, rfl, hS⟩ := hS
  exact lv_ladd hC.1 hC.2.1 hd (k.go hC hW hL ⟨_, _, rfl, rfl, hS⟩ hp h1 h2)
theorem rn_lsub {x : Int64} {y : Int64} (hd : decode M.2.1 pc = .ok (.lsub, 1)) (k : Rn Z M (pc + 1) ls (.long (x - y) :: st) w ca sa K) : Rn Z M pc ls (.long y :: .long x :: st) w ca sa K := by
  intro p e s m args below meth c H locs cells slots mc ms A ad0 ad ws tys la sta hC hW hL hS hp h1 h2
  obtain ⟨_, _, rfl, rfl, _, _, rfl, rfl, hS⟩ := hS
  exact lv_lsub hC.1 hC.2.1 hd (k.go hC hW hL ⟨_, _, rfl, rfl, hS⟩ hp h1 h2)
theorem rn_lmul {x : Int64} {y : Int64} (hd : decode M.2.1 pc = .ok (.lmul, 1)) (k : Rn Z M (pc + 1) ls (.long (x * y) :: st) w ca sa K) : Rn Z M pc ls (.long y :: .long x :: st) w ca sa K := by
  intro p e s m args below meth c H locs cells slots mc ms A ad0 ad ws tys la sta hC hW hL hS hp h1 h2
  obtain ⟨_, _, rfl, rfl, _, _, rfl, rfl, hS⟩ := hS
  exact lv_lmul hC.1 hC.2.1 hd (k.go hC hW hL ⟨_, _, rfl, rfl, hS⟩ hp h1 h2)
theorem rn_land {x : Int64} {y : Int64} (hd : decode M.2.1 pc = .ok (.land, 1)) (k : Rn Z M (pc + 1) ls (.long (x &&& y) :: st) w ca sa K) : Rn Z M pc ls (.long y :: .long x :: st) w ca sa K := by
  intro p e s m args below meth c H locs cells slots mc ms A ad0 ad ws tys la sta hC hW hL hS hp h1 h2
  obtain ⟨_, _, rfl, rfl, _, _, rfl, rfl, hS⟩ := hS
  exact lv_land hC.1 hC.2.1 hd (k.go hC hW hL ⟨_, _, rfl, rfl, hS⟩ hp h1 h2)
theorem rn_lor {x : Int64} {y : Int64} (hd : decode M.2.1 pc = .ok (.lor, 1)) (k : Rn Z M (pc + 1) ls (.long (x ||| y) :: st) w ca sa K) : Rn Z M pc ls (.long y :: .long x :: st) w ca sa K := by
  intro p e s m args below meth c H locs cells slots mc ms A ad0 ad ws tys la sta hC hW hL hS hp h1 h2
  obtain ⟨_, _, rfl, rfl, _, _, rfl, rfl, hS⟩ := hS
  exact lv_lor hC.1 hC.2.1 hd (k.go hC hW hL ⟨_, _, rfl, rfl, hS⟩ hp h1 h2)
theorem rn_iushr {x : Int32} {y : Int32} (hd : decode M.2.1 pc = .ok (.iushr, 1)) (k : Rn Z M (pc + 1) ls (.int ((x.toUInt32 >>> (y.toUInt32 &&& Int32.toUInt32 31)).toInt32) :: st) w ca sa K) : Rn Z M pc ls (.int y :: .int x :: st) w ca sa K := by
  intro p e s m args below meth c H locs cells slots mc ms A ad0 ad ws tys la sta hC hW hL hS hp h1 h2
  obtain ⟨_, _, rfl, rfl, _, _, rfl, rfl, hS⟩ := hS
  exact lv_iushr hC.1 hC.2.1 hd rfl (k.go hC hW hL ⟨_, _, rfl, rfl, hS⟩ hp h1 h2)
theorem rn_lushr {x : Int64} {y : Int32} (hd : decode M.2.1 pc = .ok (.lushr, 1)) (k : Rn Z M (pc + 1) ls (.long ((x.toUInt64 >>> (y.toInt64.toUInt64 &&& Int64.toUInt64 63)).toInt64) :: st) w ca sa K) : Rn Z M pc ls (.int y :: .long x :: st) w ca sa K := by
  intro p e s m args below meth c H locs cells slots mc ms A ad0 ad ws tys la sta hC hW hL hS hp h1 h2
  obtain ⟨_, _, rfl, rfl, _, _, rfl, rfl, hS⟩ := hS
  exact lv_lushr hC.1 hC.2.1 hd rfl (k.go hC hW hL ⟨_, _, rfl, rfl, hS⟩ hp h1 h2)
theorem rn_lshl {x : Int64} {y : Int32} (hd : decode M.2.1 pc = .ok (.lshl, 1)) (k : Rn Z M (pc + 1) ls (.long (x <<< (y.toInt64 &&& 63)) :: st) w ca sa K) : Rn Z M pc ls (.int y :: .long x :: st) w ca sa K := by
  intro p e s m args below meth c H locs cells slots mc ms A ad0 ad ws tys la sta hC hW hL hS hp h1 h2
  obtain ⟨_, _, rfl, rfl, _, _, rfl, rfl, hS⟩ := hS
  exact lv_lshl hC.1 hC.2.1 hd rfl (k.go hC hW hL ⟨_, _, rfl, rfl, hS⟩ hp h1 h2)
theorem rn_lshr {x : Int64} {y : Int32} (hd : decode M.2.1 pc = .ok (.lshr, 1)) (k : Rn Z M (pc + 1) ls (.long (x >>> (y.toInt64 &&& 63)) :: st) w ca sa K) : Rn Z M pc ls (.int y :: .long x :: st) w ca sa K := by
  intro p e s m args below meth c H locs cells slots mc ms A ad0 ad ws tys la sta hC hW hL hS hp h1 h2
  obtain ⟨_, _, rfl, rfl, _, _, rfl, rfl, hS⟩ := hS
  exact lv_lshr hC.1 hC.2.1 hd rfl (k.go hC hW hL ⟨_, _, rfl, rfl, hS⟩ hp h1 h2)
theorem rn_lcmp {x y : Int64} (hd : decode M.2.1 pc = .ok (.lcmp, 1)) (k : Rn Z M (pc + 1) ls (.int (lg_cmp x y) :: st) w ca sa K) : Rn Z M pc ls (.long y :: .long x :: st) w ca sa K := by
  intro p e s m args below meth c H locs cells slots mc ms A ad0 ad ws tys la sta hC hW hL hS hp h1 h2
  obtain ⟨_, _, rfl, rfl, _, _, rfl, rfl, hS⟩ := hS
  exact W.lcmp hC.1 hC.2.1 hd (k.go hC hW hL ⟨_, _, rfl, rfl, hS⟩ hp h1 h2)
theorem rn_i2l {x : Int32} (hd : decode M.2.1 pc = .ok (.i2l, 1)) (k : Rn Z M (pc + 1) ls (.long (x.toInt64) :: st) w ca sa K) : Rn Z M pc ls (.int x :: st) w ca sa K := by
  intro p e s m args below meth c H locs cells slots mc ms A ad0 ad ws tys la sta hC hW hL hS hp h1 h2
  obtain ⟨_, _, rfl, rfl, hS⟩ := hS
  exact lv_i2l hC.1 hC.2.1 hd rfl (k.go hC hW hL ⟨_, _, rfl, rfl, hS⟩ hp h1 h2)
theorem rn_l2i {x : Int64} (hd : decode M.2.1 pc = .ok (.l2i, 1)) (k : Rn Z M (pc + 1) ls (.int (x.toInt32) :: st) w ca sa K) : Rn Z M pc ls (.long x :: st) w ca sa K := by
  intro p e s m args below meth c H locs cells slots mc ms A ad0 ad ws tys la sta hC hW hL hS hp h1 h2
  obtain ⟨_, _, rfl, rfl, hS⟩ := hS
  exact lv_l2i hC.1 hC.2.1 hd rfl (k.go hC hW hL ⟨_, _, rfl, rfl, hS⟩ hp h1 h2)
theorem rn_i2c {x : Int32} (hd : decode M.2.1 pc = .ok (.i2c, 1)) (k : Rn Z M (pc + 1) ls (.int ((x.toUInt32 % 65536).toInt32) :: st) w ca sa K) : Rn Z M pc ls (.int x :: st) w ca sa K := by
  intro p e s m args below meth c H locs cells slots mc ms A ad0 ad ws tys la sta hC hW hL hS hp h1 h2
  obtain ⟨_, _, rfl, rfl, hS⟩ := hS
  exact lv_i2c hC.1 hC.2.1 hd rfl (k.go hC hW hL ⟨_, _, rfl, rfl, hS⟩ hp h1 h2)
theorem rn_dup {v : Value} (hd : decode M.2.1 pc = .ok (.dup, 1)) (hv : v.category = 1) (k : Rn Z M (pc + 1) ls (v :: v :: st) w ca sa K) : Rn Z M pc ls (v :: st) w ca sa K := by
  intro p e s m args below meth c H locs cells slots mc ms A ad0 ad ws tys la sta hC hW hL hS hp h1 h2
  obtain ⟨u, us, rfl, hu, hS⟩ := hS
  exact lv_dup hC.1 hC.2.1 hd (by rw [rn_v_cat hu]; exact hv) (k.go hC hW hL ⟨_, _, rfl, hu, _, _, rfl, hu, hS⟩ hp h1 h2)
theorem rn_pop {v : Value} (hd : decode M.2.1 pc = .ok (.pop, 1)) (hv : v.category = 1) (k : Rn Z M (pc + 1) ls st w ca sa K) : Rn Z M pc ls (v :: st) w ca sa K := by
  intro p e s m args below meth c H locs cells slots mc ms A ad0 ad ws tys la sta hC hW hL hS hp h1 h2
  obtain ⟨u, us, rfl, hu, hS⟩ := hS
  exact lv_pop hC.1 hC.2.1 hd (by rw [rn_v_cat hu]; exact hv) (k.go hC hW hL hS hp h1 h2)
theorem rn_dup2 {v v2 : Value} (hd : decode M.2.1 pc = .ok (.dup2, 1)) (hv : v.category = 1) (hv2 : v2.category = 1) (k : Rn Z M (pc + 1) ls (v :: v2 :: v :: v2 :: st) w ca sa K) : Rn Z M pc ls (v :: v2 :: st) w ca sa K := by
  intro p e s m args below meth c H locs cells slots mc ms A ad0 ad ws tys la sta hC hW hL hS hp h1 h2
  obtain ⟨u, us, rfl, hu, u2, us2, rfl, hu2, hS⟩ := hS
  exact lv_dup2_11 hC.1 hC.2.1 hd (by rw [rn_v_cat hu]; exact hv) (by rw [rn_v_cat hu2]; exact hv2) (k.go hC hW hL ⟨_, _, rfl, hu, _, _, rfl, hu2, _, _, rfl, hu, _, _, rfl, hu2, hS⟩ hp h1 h2)
theorem rn_dup_x1 {v v2 : Value} (hd : decode M.2.1 pc = .ok (.dup_x1, 1)) (hv : v.category = 1) (hv2 : v2.category = 1) (k : Rn Z M (pc + 1) ls (v :: v2 :: v :: st) w ca sa K) : Rn Z M pc ls (v :: v2 :: st) w ca sa K := by
  intro p e s m args below meth c H locs cells slots mc ms A ad0 ad ws tys la sta hC hW hL hS hp h1 h2
  obtain ⟨u, us, rfl, hu, u2, us2, rfl, hu2, hS⟩ := hS
  exact lv_dup_x1 hC.1 hC.2.1 hd (by rw [rn_v_cat hu]; exact hv) (by rw [rn_v_cat hu2]; exact hv2) (k.go hC hW hL ⟨_, _, rfl, hu, _, _, rfl, hu2, _, _, rfl, hu, hS⟩ hp h1 h2)
theorem rn_if_eq_t {x : Int32} {off : Int} (tgt : Nat) (hd : decode M.2.1 pc = .ok (.ifCond .eq off, 3)) (ht : (pc : Int) + off = (tgt : Int)) (h : x = 0) (k : Rn Z M tgt ls st w ca sa K) : Rn Z M pc ls (.int x :: st) w ca sa K := by
  intro p e s m args below meth c H locs cells slots mc ms A ad0 ad ws tys la sta hC hW hL hS hp h1 h2
  obtain ⟨_, _, rfl, rfl, hS⟩ := hS
  exact lv_if_eq hC.1 hC.2.1 hd ht (fun _ => k.go hC hW hL hS hp h1 h2) (fun n => absurd h n)
theorem rn_if_eq_f {x : Int32} {off : Int} (tgt : Nat) (hd : decode M.2.1 pc = .ok (.ifCond .eq off, 3)) (ht : (pc : Int) + off = (tgt : Int)) (h : ¬ x = 0) (k : Rn Z M (pc + 3) ls st w ca sa K) : Rn Z M pc ls (.int x :: st) w ca sa K := by
  intro p e s m args below meth c H locs cells slots mc ms A ad0 ad ws tys la sta hC hW hL hS hp h1 h2
  obtain ⟨_, _, rfl, rfl, hS⟩ := hS
  exact lv_if_eq hC.1 hC.2.1 hd ht (fun n => absurd n h) (fun _ => k.go hC hW hL hS hp h1 h2)
theorem rn_icmp_eq_t {x y : Int32} {off : Int} (tgt : Nat) (hd : decode M.2.1 pc = .ok (.if_icmp .eq off, 3)) (ht : (pc : Int) + off = (tgt : Int)) (h : x = y) (k : Rn Z M tgt ls st w ca sa K) : Rn Z M pc ls (.int y :: .int x :: st) w ca sa K := by
  intro p e s m args below meth c H locs cells slots mc ms A ad0 ad ws tys la sta hC hW hL hS hp h1 h2
  obtain ⟨_, _, rfl, rfl, _, _, rfl, rfl, hS⟩ := hS
  exact lv_icmp_eq hC.1 hC.2.1 hd ht (fun _ => k.go hC hW hL hS hp h1 h2) (fun n => absurd h n)
theorem rn_icmp_eq_f {x y : Int32} {off : Int} (tgt : Nat) (hd : decode M.2.1 pc = .ok (.if_icmp .eq off, 3)) (ht : (pc : Int) + off = (tgt : Int)) (h : ¬ x = y) (k : Rn Z M (pc + 3) ls st w ca sa K) : Rn Z M pc ls (.int y :: .int x :: st) w ca sa K := by
  intro p e s m args below meth c H locs cells slots mc ms A ad0 ad ws tys la sta hC hW hL hS hp h1 h2
  obtain ⟨_, _, rfl, rfl, _, _, rfl, rfl, hS⟩ := hS
  exact lv_icmp_eq hC.1 hC.2.1 hd ht (fun n => absurd n h) (fun _ => k.go hC hW hL hS hp h1 h2)
theorem rn_if_ne_t {x : Int32} {off : Int} (tgt : Nat) (hd : decode M.2.1 pc = .ok (.ifCond .ne off, 3)) (ht : (pc : Int) + off = (tgt : Int)) (h : ¬ x = 0) (k : Rn Z M tgt ls st w ca sa K) : Rn Z M pc ls (.int x :: st) w ca sa K := by
  intro p e s m args below meth c H locs cells slots mc ms A ad0 ad ws tys la sta hC hW hL hS hp h1 h2
  obtain ⟨_, _, rfl, rfl, hS⟩ := hS
  exact lv_if_ne hC.1 hC.2.1 hd ht (fun _ => k.go hC hW hL hS hp h1 h2) (fun n => absurd n h)
theorem rn_if_ne_f {x : Int32} {off : Int} (tgt : Nat) (hd : decode M.2.1 pc = .ok (.ifCond .ne off, 3)) (ht : (pc : Int) + off = (tgt : Int)) (h : x = 0) (k : Rn Z M (pc + 3) ls st w ca sa K) : Rn Z M pc ls (.int x :: st) w ca sa K := by
  intro p e s m args below meth c H locs cells slots mc ms A ad0 ad ws tys la sta hC hW hL hS hp h1 h2
  obtain ⟨_, _, rfl, rfl, hS⟩ := hS
  exact lv_if_ne hC.1 hC.2.1 hd ht (fun n => absurd h n) (fun _ => k.go hC hW hL hS hp h1 h2)
theorem rn_icmp_ne_t {x y : Int32} {off : Int} (tgt : Nat) (hd : decode M.2.1 pc = .ok (.if_icmp .ne off, 3)) (ht : (pc : Int) + off = (tgt : Int)) (h : ¬ x = y) (k : Rn Z M tgt ls st w ca sa K) : Rn Z M pc ls (.int y :: .int x :: st) w ca sa K := by
  intro p e s m args below meth c H locs cells slots mc ms A ad0 ad ws tys la sta hC hW hL hS hp h1 h2
  obtain ⟨_, _, rfl, rfl, _, _, rfl, rfl, hS⟩ := hS
  exact lv_icmp_ne hC.1 hC.2.1 hd ht (fun _ => k.go hC hW hL hS hp h1 h2) (fun n => absurd n h)
theorem rn_icmp_ne_f {x y : Int32} {off : Int} (tgt : Nat) (hd : decode M.2.1 pc = .ok (.if_icmp .ne off, 3)) (ht : (pc : Int) + off = (tgt : Int)) (h : x = y) (k : Rn Z M (pc + 3) ls st w ca sa K) : Rn Z M pc ls (.int y :: .int x :: st) w ca sa K := by
  intro p e s m args below meth c H locs cells slots mc ms A ad0 ad ws tys la sta hC hW hL hS hp h1 h2
  obtain ⟨_, _, rfl, rfl, _, _, rfl, rfl, hS⟩ := hS
  exact lv_icmp_ne hC.1 hC.2.1 hd ht (fun n => absurd h n) (fun _ => k.go hC hW hL hS hp h1 h2)
theorem rn_if_lt_t {x : Int32} {off : Int} (tgt : Nat) (hd : decode M.2.1 pc = .ok (.ifCond .lt off, 3)) (ht : (pc : Int) + off = (tgt : Int)) (h : x < 0) (k : Rn Z M tgt ls st w ca sa K) : Rn Z M pc ls (.int x :: st) w ca sa K := by
  intro p e s m args below meth c H locs cells slots mc ms A ad0 ad ws tys la sta hC hW hL hS hp h1 h2
  obtain ⟨_, _, rfl, rfl, hS⟩ := hS
  exact lv_if_lt hC.1 hC.2.1 hd ht (fun _ => k.go hC hW hL hS hp h1 h2) (fun n => absurd h n)
theorem rn_if_lt_f {x : Int32} {off : Int} (tgt : Nat) (hd : decode M.2.1 pc = .ok (.ifCond .lt off, 3)) (ht : (pc : Int) + off = (tgt : Int)) (h : ¬ x < 0) (k : Rn Z M (pc + 3) ls st w ca sa K) : Rn Z M pc ls (.int x :: st) w ca sa K := by
  intro p e s m args below meth c H locs cells slots mc ms A ad0 ad ws tys la sta hC hW hL hS hp h1 h2
  obtain ⟨_, _, rfl, rfl, hS⟩ := hS
  exact lv_if_lt hC.1 hC.2.1 hd ht (fun n => absurd n h) (fun _ => k.go hC hW hL hS hp h1 h2)
theorem rn_icmp_lt_t {x y : Int32} {off : Int} (tgt : Nat) (hd : decode M.2.1 pc = .ok (.if_icmp .lt off, 3)) (ht : (pc : Int) + off = (tgt : Int)) (h : x < y) (k : Rn Z M tgt ls st w ca sa K) : Rn Z M pc ls (.int y :: .int x :: st) w ca sa K := by
  intro p e s m args below meth c H locs cells slots mc ms A ad0 ad ws tys la sta hC hW hL hS hp h1 h2
  obtain ⟨_, _, rfl, rfl, _, _, rfl, rfl, hS⟩ := hS
  exact lv_icmp_lt hC.1 hC.2.1 hd ht (fun _ => k.go hC hW hL hS hp h1 h2) (fun n => absurd h n)
theorem rn_icmp_lt_f {x y : Int32} {off : Int} (tgt : Nat) (hd : decode M.2.1 pc = .ok (.if_icmp .lt off, 3)) (ht : (pc : Int) + off = (tgt : Int)) (h : ¬ x < y) (k : Rn Z M (pc + 3) ls st w ca sa K) : Rn Z M pc ls (.int y :: .int x :: st) w ca sa K := by
  intro p e s m args below meth c H locs cells slots mc ms A ad0 ad ws tys la sta hC hW hL hS hp h1 h2
  obtain ⟨_, _, rfl, rfl, _, _, rfl, rfl, hS⟩ := hS
  exact lv_icmp_lt hC.1 hC.2.1 hd ht (fun n => absurd n h) (fun _ => k.go hC hW hL hS hp h1 h2)
theorem rn_if_ge_t {x : Int32} {off : Int} (tgt : Nat) (hd : decode M.2.1 pc = .ok (.ifCond .ge off, 3)) (ht : (pc : Int) + off = (tgt : Int)) (h : 0 ≤ x) (k : Rn Z M tgt ls st w ca sa K) : Rn Z M pc ls (.int x :: st) w ca sa K := by
  intro p e s m args below meth c H locs cells slots mc ms A ad0 ad ws tys la sta hC hW hL hS hp h1 h2
  obtain ⟨_, _, rfl, rfl, hS⟩ := hS
  exact lv_if_ge hC.1 hC.2.1 hd ht (fun _ => k.go hC hW hL hS hp h1 h2) (fun n => absurd h n)
theorem rn_if_ge_f {x : Int32} {off : Int} (tgt : Nat) (hd : decode M.2.1 pc = .ok (.ifCond .ge off, 3)) (ht : (pc : Int) + off = (tgt : Int)) (h : ¬ 0 ≤ x) (k : Rn Z M (pc + 3) ls st w ca sa K) : Rn Z M pc ls (.int x :: st) w ca sa K := by
  intro p e s m args below meth c H locs cells slots mc ms A ad0 ad ws tys la sta hC hW hL hS hp h1 h2
  obtain ⟨_, _, rfl, rfl, hS⟩ := hS
  exact lv_if_ge hC.1 hC.2.1 hd ht (fun n => absurd n h) (fun _ => k.go hC hW hL hS hp h1 h2)
theorem rn_icmp_ge_t {x y : Int32} {off : Int} (tgt : Nat) (hd : decode M.2.1 pc = .ok (.if_icmp .ge off, 3)) (ht : (pc : Int) + off = (tgt : Int)) (h : y ≤ x) (k : Rn Z M tgt ls st w ca sa K) : Rn Z M pc ls (.int y :: .int x :: st) w ca sa K := by
  intro p e s m args below meth c H locs cells slots mc ms A ad0 ad ws tys la sta hC hW hL hS hp h1 h2
  obtain ⟨_, _, rfl, rfl, _, _, rfl, rfl, hS⟩ := hS
  exact lv_icmp_ge hC.1 hC.2.1 hd ht (fun _ => k.go hC hW hL hS hp h1 h2) (fun n => absurd h n)
theorem rn_icmp_ge_f {x y : Int32} {off : Int} (tgt : Nat) (hd : decode M.2.1 pc = .ok (.if_icmp .ge off, 3)) (ht : (pc : Int) + off = (tgt : Int)) (h : ¬ y ≤ x) (k : Rn Z M (pc + 3) ls st w ca sa K) : Rn Z M pc ls (.int y :: .int x :: st) w ca sa K := by
  intro p e s m args below meth c H locs cells slots mc ms A ad0 ad ws tys la sta hC hW hL hS hp h1 h2
  obtain ⟨_, _, rfl, rfl, _, _, rfl, rfl, hS⟩ := hS
  exact lv_icmp_ge hC.1 hC.2.1 hd ht (fun n => absurd n h) (fun _ => k.go hC hW hL hS hp h1 h2)
theorem rn_if_gt_t {x : Int32} {off : Int} (tgt : Nat) (hd : decode M.2.1 pc = .ok (.ifCond .gt off, 3)) (ht : (pc : Int) + off = (tgt : Int)) (h : 0 < x) (k : Rn Z M tgt ls st w ca sa K) : Rn Z M pc ls (.int x :: st) w ca sa K := by
  intro p e s m args below meth c H locs cells slots mc ms A ad0 ad ws tys la sta hC hW hL hS hp h1 h2
  obtain ⟨_, _, rfl, rfl, hS⟩ := hS
  exact lv_if_gt hC.1 hC.2.1 hd ht (fun _ => k.go hC hW hL hS hp h1 h2) (fun n => absurd h n)
theorem rn_if_gt_f {x : Int32} {off : Int} (tgt : Nat) (hd : decode M.2.1 pc = .ok (.ifCond .gt off, 3)) (ht : (pc : Int) + off = (tgt : Int)) (h : ¬ 0 < x) (k : Rn Z M (pc + 3) ls st w ca sa K) : Rn Z M pc ls (.int x :: st) w ca sa K := by
  intro p e s m args below meth c H locs cells slots mc ms A ad0 ad ws tys la sta hC hW hL hS hp h1 h2
  obtain ⟨_, _, rfl, rfl, hS⟩ := hS
  exact lv_if_gt hC.1 hC.2.1 hd ht (fun n => absurd n h) (fun _ => k.go hC hW hL hS hp h1 h2)
theorem rn_icmp_gt_t {x y : Int32} {off : Int} (tgt : Nat) (hd : decode M.2.1 pc = .ok (.if_icmp .gt off, 3)) (ht : (pc : Int) + off = (tgt : Int)) (h : y < x) (k : Rn Z M tgt ls st w ca sa K) : Rn Z M pc ls (.int y :: .int x :: st) w ca sa K := by
  intro p e s m args below meth c H locs cells slots mc ms A ad0 ad ws tys la sta hC hW hL hS hp h1 h2
  obtain ⟨_, _, rfl, rfl, _, _, rfl, rfl, hS⟩ := hS
  exact lv_icmp_gt hC.1 hC.2.1 hd ht (fun _ => k.go hC hW hL hS hp h1 h2) (fun n => absurd h n)
theorem rn_icmp_gt_f {x y : Int32} {off : Int} (tgt : Nat) (hd : decode M.2.1 pc = .ok (.if_icmp .gt off, 3)) (ht : (pc : Int) + off = (tgt : Int)) (h : ¬ y < x) (k : Rn Z M (pc + 3) ls st w ca sa K) : Rn Z M pc ls (.int y :: .int x :: st) w ca sa K := by
  intro p e s m args below meth c H locs cells slots mc ms A ad0 ad ws tys la sta hC hW hL hS hp h1 h2
  obtain ⟨_, _, rfl, rfl, _, _, rfl, rfl, hS⟩ := hS
  exact lv_icmp_gt hC.1 hC.2.1 hd ht (fun n => absurd n h) (fun _ => k.go hC hW hL hS hp h1 h2)
theorem rn_if_le_t {x : Int32} {off : Int} (tgt : Nat) (hd : decode M.2.1 pc = .ok (.ifCond .le off, 3)) (ht : (pc : Int) + off = (tgt : Int)) (h : x ≤ 0) (k : Rn Z M tgt ls st w ca sa K) : Rn Z M pc ls (.int x :: st) w ca sa K := by
  intro p e s m args below meth c H locs cells slots mc ms A ad0 ad ws tys la sta hC hW hL hS hp h1 h2
  obtain ⟨_, _, rfl, rfl, hS⟩ := hS
  exact lv_if_le hC.1 hC.2.1 hd ht (fun _ => k.go hC hW hL hS hp h1 h2) (fun n => absurd h n)
theorem rn_if_le_f {x : Int32} {off : Int} (tgt : Nat) (hd : decode M.2.1 pc = .ok (.ifCond .le off, 3)) (ht : (pc : Int) + off = (tgt : Int)) (h : ¬ x ≤ 0) (k : Rn Z M (pc + 3) ls st w ca sa K) : Rn Z M pc ls (.int x :: st) w ca sa K := by
  intro p e s m args below meth c H locs cells slots mc ms A ad0 ad ws tys la sta hC hW hL hS hp h1 h2
  obtain ⟨_, _, rfl, rfl, hS⟩ := hS
  exact lv_if_le hC.1 hC.2.1 hd ht (fun n => absurd n h) (fun _ => k.go hC hW hL hS hp h1 h2)
theorem rn_icmp_le_t {x y : Int32} {off : Int} (tgt : Nat) (hd : decode M.2.1 pc = .ok (.if_icmp .le off, 3)) (ht : (pc : Int) + off = (tgt : Int)) (h : x ≤ y) (k : Rn Z M tgt ls st w ca sa K) : Rn Z M pc ls (.int y :: .int x :: st) w ca sa K := by
  intro p e s m args below meth c H locs cells slots mc ms A ad0 ad ws tys la sta hC hW hL hS hp h1 h2
  obtain ⟨_, _, rfl, rfl, _, _, rfl, rfl, hS⟩ := hS
  exact lv_icmp_le hC.1 hC.2.1 hd ht (fun _ => k.go hC hW hL hS hp h1 h2) (fun n => absurd h n)
theorem rn_icmp_le_f {x y : Int32} {off : Int} (tgt : Nat) (hd : decode M.2.1 pc = .ok (.if_icmp .le off, 3)) (ht : (pc : Int) + off = (tgt : Int)) (h : ¬ x ≤ y) (k : Rn Z M (pc + 3) ls st w ca sa K) : Rn Z M pc ls (.int y :: .int x :: st) w ca sa K := by
  intro p e s m args below meth c H locs cells slots mc ms A ad0 ad ws tys la sta hC hW hL hS hp h1 h2
  obtain ⟨_, _, rfl, rfl, _, _, rfl, rfl, hS⟩ := hS
  exact lv_icmp_le hC.1 hC.2.1 hd ht (fun n => absurd n h) (fun _ => k.go hC hW hL hS hp h1 h2)
theorem rn_goto {off : Int} (tgt : Nat) (hd : decode M.2.1 pc = .ok (.goto off, 3)) (ht : (pc : Int) + off = (tgt : Int)) (k : Rn Z M tgt ls st w ca sa K) : Rn Z M pc ls st w ca sa K := by
  intro p e s m args below meth c H locs cells slots mc ms A ad0 ad ws tys la sta hC hW hL hS hp h1 h2
  exact lv_goto hC.1 hC.2.1 hd ht (k.go hC hW hL hS hp h1 h2)
theorem rn_tabIn {dflt lo hi off : Int} {offs : Array Int} {len : Nat} {x : Int32} (tgt : Nat) (hd : decode M.2.1 pc = .ok (.tableswitch dflt lo hi offs, len)) (g1 : ¬ x.toInt < lo) (g2 : ¬ hi < x.toInt) (ho : offs[(x.toInt - lo).toNat]? = some off) (ht : (pc : Int) + off = (tgt : Int)) (k : Rn Z M tgt ls st w ca sa K) : Rn Z M pc ls (.int x :: st) w ca sa K := by
  intro p e s m args below meth c H locs cells slots mc ms A ad0 ad ws tys la sta hC hW hL hS hp h1 h2
  obtain ⟨_, _, rfl, rfl, hS⟩ := hS
  exact lv_tableIn hC.1 hC.2.1 hd g1 g2 ho ht (k.go hC hW hL hS hp h1 h2)
theorem rn_tabOut {dflt lo hi : Int} {offs : Array Int} {len : Nat} {x : Int32} (tgt : Nat) (hd : decode M.2.1 pc = .ok (.tableswitch dflt lo hi offs, len)) (g : x.toInt < lo ∨ hi < x.toInt) (ht : (pc : Int) + dflt = (tgt : Int)) (k : Rn Z M tgt ls st w ca sa K) : Rn Z M pc ls (.int x :: st) w ca sa K := by
  intro p e s m args below meth c H locs cells slots mc ms A ad0 ad ws tys la sta hC hW hL hS hp h1 h2
  obtain ⟨_, _, rfl, rfl, hS⟩ := hS
  exact lv_tableOut hC.1 hC.2.1 hd g ht (k.go hC hW hL hS hp h1 h2)
end
end
section
/-! The core, second part: fields, arrays, new cells, calls, ends. -/
def aG {α : Type} (f : Nat → α) (n : Nat) (i : Int32) : Option α := if i < 0 ∨ n ≤ i.toNatClampNeg then none else some (f i.toNatClampNeg)
def aS {α : Type} (f : Nat → α) (n : Nat) (i : Int32) (v : α) : Option (Nat → α) := if i < 0 ∨ n ≤ i.toNatClampNeg then none else some (fun j => if j = i.toNatClampNeg then v else f j)
/-- a place of an array of arrays -/
def aI (n : Nat) (i : Int32) : Option Nat := if i < 0 ∨ n ≤ i.toNatClampNeg then none else some i.toNatClampNeg
theorem aG_some {α : Type} {f : Nat → α} {n : Nat} {i : Int32} {x : α} (h : aG f n i = some x) : vp_in i n ∧ f i.toNatClampNeg = x := by
  unfold aG at h
  split at h
  next => cases h
  next hn => exact ⟨hn, Option.some.inj h⟩
theorem aS_some {α : Type} {f f1 : Nat → α} {n : Nat} {i : Int32} {v : α} (h : aS f n i v = some f1) : vp_in i n ∧ (fun j => if j = i.toNatClampNeg then v else f j) = f1 := by
  unfold aS at h
  split at h
  next => cases h
  next hn => exact ⟨hn, Option.some.inj h⟩
theorem aI_some {n : Nat} {i : Int32} {x : Nat} (h : aI n i = some x) : vp_in i n ∧ i.toNatClampNeg = x ∧ x < n := by
  unfold aI at h
  split at h
  next => cases h
  next hn => exact ⟨hn, Option.some.inj h, by rw [← Option.some.inj h]; exact Nat.not_le.mp fun q => hn (Or.inr q)⟩
/-- the least 16 bits, as a char array keeps them -/
def rn_ch (x : Int32) : Int32 := x.toUInt32.toUInt16.toUInt32.toInt32
def rn_fit : FieldType → Value → Bool
  | .int, .int _ => true
  | .long, .long _ => true
  | .boolean, .int x => (x == 0) || (x == 1)
  | .object _, .ref _ => true
  | .array _, .ref _ => true
  | _, _ => false
theorem rn_fit_ok {ad : List Nat} {ty : FieldType} {v u : Value} (h : rn_fit ty v = true) (hv : rn_v ad v u) : narrow ty u = u ∧ fits ty u = true := by
  cases v with
  | int x =>
    have hv : u = _ := hv
    subst hv
    cases ty <;> first | (simp [rn_fit] at h; done) | exact ⟨rfl, rfl⟩ | skip
    have h : ((x == 0) || (x == 1)) = true := h
    have h2 : x = 0 ∨ x = 1 := by simpa using h
    rcases h2 with rfl | rfl <;> exact ⟨rfl, rfl⟩
  | long x =>
    have hv : u = _ := hv
    subst hv
    cases ty <;> first | (simp [rn_fit] at h; done) | exact ⟨rfl, rfl⟩
  | ref i =>
    obtain ⟨a, -, rfl⟩ := hv
    cases ty <;> first | (simp [rn_fit] at h; done) | exact ⟨rfl, rfl⟩
  | null => cases ty <;> simp [rn_fit] at h
  | _ => exact hv.elim
def rn_Cl (ci : Nat) (C : String) (T : u_T) (N : Nat) (ty : Nat → FieldType) : Prop := rn_cl[ci]? = some (C, T, N) ∧ (∀ x ∈ u_ws C T N, x ∈ rn_tb) ∧ (∀ k, k < N → parseFieldDescriptor (T k).2.2.1 = some (ty k)) ∧ ∀ a, a < N → ∀ b, b < N → a ≠ b → (T a).2.1 ≠ (T b).2.1
def rn_Lk (own : String) (idx : Nat) (f : String × String × String × Bool) : Prop := Cond.fieldLink own idx f.1 f.2.1 f.2.2.1 ∈ rn_tb ∨ ∃ host, Cond.fieldLinkNest own idx f.1 f.2.1 f.2.2.1 host ∈ rn_tb
def rn_Fd (own : String) (idx ci k : Nat) (fin : Bool) (ty0 : FieldType) : Prop := ∃ (C : String) (T : u_T) (N : Nat) (ty : Nat → FieldType), rn_Cl ci C T N ty ∧ k < N ∧ rn_Lk own idx (T k) ∧ (T k).2.2.2 = fin ∧ ty k = ty0
def rn_Ff (own : String) (idx ci k : Nat) (ty0 : FieldType) : Prop := ∃ (C : String) (T : u_T) (N : Nat) (ty : Nat → FieldType), rn_Cl ci C T N ty ∧ k < N ∧ Cond.fieldLink own idx (T k).1 (T k).2.1 (T k).2.2.1 ∈ rn_tb ∧ (T k).2.2.2 = true ∧ ty k = ty0 ∧ (T k).1 = own
section
variable {Z : rn_Z} {M : rn_M} {pc : Nat} {ls : List (Option Value)} {st : List Value} {w w2 : List rn_C} {ca sa : Nat} {K : rn_K}
theorem rn_getf {idx ci k o : Nat} {fin : Bool} {ty0 : FieldType} {fs : List Value} {v : Value} (hf : rn_Fd M.1.cls idx ci k fin ty0) (hd : decode M.2.1 pc = .ok (.getfield idx, 3)) (ho : w[o]? = some (rn_o ci fs)) (hv : fs[k]? = some v) (kk : Rn Z M (pc + 3) ls (v :: st) w ca sa K) : Rn Z M pc ls (.ref o :: st) w ca sa K := by
  intro p e s m args below meth c H locs cells slots mc ms A ad0 ad ws tys la sta hC hW hL hS hp h1 h2
  obtain ⟨C, T, N, ty, ⟨c1, c2, c3, c4⟩, hk, hlk, -⟩ := hf
  obtain ⟨_, _, rfl, ⟨a, ha, rfl⟩, hS⟩ := hS
  obtain ⟨a', ha', k0, us, h0, hus⟩ := hW.1.2.2 _ _ ho
  cases ha.symm.trans ha'
  obtain ⟨u, hu, hvu⟩ := rn_vs_at hus hv
  have hin : ∀ x ∈ u_ws C T N, x ∈ rn_tb := c2
  rcases hlk with hlk | ⟨host, hlk⟩
  · exact va_get hC.1 hC.2.1 hC.2.2.2.2.1 hin hC.2.2.2.1 hW.2.2.1 hW.2.1 k0 h0 c1 k hk (hC.2.2.2.2.1 _ hlk) (fun _ q => q) hu hd (kk.go hC hW hL ⟨_, _, rfl, hvu, hS⟩ hp h1 h2)
  · exact va_getN hC.1 hC.2.1 hC.2.2.2.2.1 hin hC.2.2.2.1 hW.2.2.1 hW.2.1 k0 h0 c1 k hk (hC.2.2.2.2.1 _ hlk) (fun _ q => q) hu hd (kk.go hC hW hL ⟨_, _, rfl, hvu, hS⟩ hp h1 h2)
theorem rn_putf {idx ci k o : Nat} {ty0 : FieldType} {fs : List Value} {v : Value} (hf : rn_Fd M.1.cls idx ci k false ty0) (hd : decode M.2.1 pc = .ok (.putfield idx, 3)) (ho : w[o]? = some (rn_o ci fs)) (hfit : rn_fit ty0 v = true) (hkl : k < fs.length) (hw2 : w.set o (rn_o ci (fs.set k v)) = w2) (kk : Rn Z M (pc + 3) ls st w2 ca sa K) : Rn Z M pc ls (v :: .ref o :: st) w ca sa K := by
  intro p e s m args below meth c H locs cells slots mc ms A ad0 ad ws tys la sta hC hW hL hS hp h1 h2
  obtain ⟨C, T, N, ty, ⟨c1, c2, c3, c4⟩, hk, hlk, hfin, hty⟩ := hf
  obtain ⟨u, _, rfl, hvu, _, _, rfl, ⟨a, ha, rfl⟩, hS⟩ := hS
  obtain ⟨a', ha', k0, us, h0, hus⟩ := hW.1.2.2 _ _ ho
  cases ha.symm.trans ha'
  subst hw2
  obtain ⟨f1, f2⟩ := rn_fit_ok hfit hvu
  have hlen : k < us.length := by rw [rn_vs_len hus]; exact hkl
  have hpd : parseFieldDescriptor (T k).2.2.1 = some ty0 := by rw [c3 k hk, hty]
  have fin9 : ∀ (H1 : Heap) (locs1 : List Loc), va_P Z.2.1 rn_cl (ws.set k0 (a, .inr (ci, us.set k u))) H1 → va_D A (ws.set k0 (a, .inr (ci, us.set k u))) → va_S A s.heap H1 locs1 → W p Z.1 e (rn_R M mc ms) s m args below meth c H1 locs1 cells slots (K below args s mc ms A ad0) (F0 m (pc + 3) la _) :=
    fun H1 locs1 q1 q2 q3 => kk.go hC ⟨rn_w_set hW.1 ha h0 ⟨k0, us.set k u, List.getElem?_set_self (List.getElem?_eq_some_iff.mp h0).1, rn_vs_set hus hvu⟩, q1, hW.2.2.1, q2, q3⟩ hL hS hp h1 h2
  rcases hlk with hlk | ⟨host, hlk⟩
  · exact va_put hC.1 hC.2.1 hC.2.2.2.2.1 c2 ty c3 c4 hC.2.2.2.1 hW.2.2.1 hW.2.1 hW.2.2.2.1 hW.2.2.2.2 k0 h0 c1 k hk (hC.2.2.2.2.1 _ hlk) (fun _ q => q) hfin hpd f1 f2 hlen hd fin9
  · exact va_putN hC.1 hC.2.1 hC.2.2.2.2.1 c2 ty c3 c4 hC.2.2.2.1 hW.2.2.1 hW.2.1 hW.2.2.2.1 hW.2.2.2.2 k0 h0 c1 k hk (hC.2.2.2.2.1 _ hlk) (fun _ q => q) hfin hpd f1 f2 hlen hd fin9
/-- a final field, in a constructor -/
theorem rn_putF {idx ci k o : Nat} {ty0 : FieldType} {fs : List Value} {v : Value} (hf : rn_Ff M.1.cls idx ci k ty0) (hin2 : M.1.name = "<init>") (hd : decode M.2.1 pc = .ok (.putfield idx, 3)) (ho : w[o]? = some (rn_o ci fs)) (hfit : rn_fit ty0 v = true) (hkl : k < fs.length) (hw2 : w.set o (rn_o ci (fs.set k v)) = w2) (kk : Rn Z M (pc + 3) ls st w2 ca sa K) : Rn Z M pc ls (v :: .ref o :: st) w ca sa K := by
  intro p e s m args below meth c H locs cells slots mc ms A ad0 ad ws tys la sta hC hW hL hS hp h1 h2
  obtain ⟨C, T, N, ty, ⟨c1, c2, c3, c4⟩, hk, hlk, hfin, hty, hdc⟩ := hf
  obtain ⟨u, _, rfl, hvu, _, _, rfl, ⟨a, ha, rfl⟩, hS⟩ := hS
  obtain ⟨a', ha', k0, us, h0, hus⟩ := hW.1.2.2 _ _ ho
  cases ha.symm.trans ha'
  subst hw2
  obtain ⟨f1, f2⟩ := rn_fit_ok hfit hvu
  have hlen : k < us.length := by rw [rn_vs_len hus]; exact hkl
  have hpd : parseFieldDescriptor (T k).2.2.1 = some ty0 := by rw [c3 k hk, hty]
  exact va_putF hC.1 hC.2.1 hC.2.2.2.2.1 c2 ty c3 c4 hC.2.2.2.1 hW.2.2.1 hW.2.1 hW.2.2.2.1 hW.2.2.2.2 k0 h0 c1 k hk (hC.2.2.2.2.1 _ hlk) (fun _ q => q) hfin (hC.2.2.2.2.2.2.2.1.trans hin2) hdc hpd f1 f2 hlen hd
    (fun H1 locs1 q1 q2 q3 => kk.go hC ⟨rn_w_set hW.1 ha h0 ⟨k0, us.set k u, List.getElem?_set_self (List.getElem?_eq_some_iff.mp h0).1, rn_vs_set hus hvu⟩, q1, hW.2.2.1, q2, q3⟩ hL hS hp h1 h2)
theorem rn_iaload {o n : Nat} {f : Nat → Int32} {i : Int32} {x : Int32} (hd : decode M.2.1 pc = .ok (.iaload, 1)) (ho : w[o]? = some (rn_i .int n f)) (h : aG f n i = some x) (kk : Rn Z M (pc + 1) ls (.int x :: st) w ca sa K) : Rn Z M pc ls (.int i :: .ref o :: st) w ca sa K := by
  intro p e s m args below meth c H locs cells slots mc ms A ad0 ad ws tys la sta hC hW hL hS hp h1 h2
  obtain ⟨_, _, rfl, rfl, _, _, rfl, ⟨a, ha, rfl⟩, hS⟩ := hS
  obtain ⟨a', ha', k0, t0, cA, h0, ht⟩ := hW.1.2.2 _ _ ho
  cases ha.symm.trans ha'
  obtain ⟨hin, rfl⟩ := aG_some h
  exact va_iald hC.1 hC.2.1 hW.2.2.1 hW.2.1 k0 t0 h0 ht hin hd (kk.go hC hW hL ⟨_, _, rfl, rfl, hS⟩ hp h1 h2)
theorem rn_caload {o n : Nat} {f : Nat → Int32} {i : Int32} {x : Int32} (hd : decode M.2.1 pc = .ok (.caload, 1)) (ho : w[o]? = some (rn_i .char n f)) (h : aG f n i = some x) (kk : Rn Z M (pc + 1) ls (.int x :: st) w ca sa K) : Rn Z M pc ls (.int i :: .ref o :: st) w ca sa K := by
  intro p e s m args below meth c H locs cells slots mc ms A ad0 ad ws tys la sta hC hW hL hS hp h1 h2
  obtain ⟨_, _, rfl, rfl, _, _, rfl, ⟨a, ha, rfl⟩, hS⟩ := hS
  obtain ⟨a', ha', k0, t0, cA, h0, ht⟩ := hW.1.2.2 _ _ ho
  cases ha.symm.trans ha'
  obtain ⟨hin, rfl⟩ := aG_some h
  exact va_cald hC.1 hC.2.1 hW.2.2.1 hW.2.1 k0 t0 h0 ht hin hd (kk.go hC hW hL ⟨_, _, rfl, rfl, hS⟩ hp h1 h2)
theorem rn_laload {o n : Nat} {f : Nat → Int64} {i : Int32} {x : Int64} (hd : decode M.2.1 pc = .ok (.laload, 1)) (ho : w[o]? = some (rn_l n f)) (h : aG f n i = some x) (kk : Rn Z M (pc + 1) ls (.long x :: st) w ca sa K) : Rn Z M pc ls (.int i :: .ref o :: st) w ca sa K := by
  intro p e s m args below meth c H locs cells slots mc ms A ad0 ad ws tys la sta hC hW hL hS hp h1 h2
  obtain ⟨_, _, rfl, rfl, _, _, rfl, ⟨a, ha, rfl⟩, hS⟩ := hS
  obtain ⟨a', ha', k0, t0, cA, h0, ht⟩ := hW.1.2.2 _ _ ho
  cases ha.symm.trans ha'
  obtain ⟨hin, rfl⟩ := aG_some h
  exact va_lald hC.1 hC.2.1 hW.2.2.1 hW.2.1 k0 t0 h0 ht hin hd (kk.go hC hW hL ⟨_, _, rfl, rfl, hS⟩ hp h1 h2)
theorem rn_aaload {o y : Nat} {ty : FieldType} {l : List (Option Nat)} {i : Int32} (hd : decode M.2.1 pc = .ok (.aaload, 1)) (ho : w[o]? = some (rn_q ty l)) (hin : vp_in i l.length) (hy : l[i.toNatClampNeg]? = some (some y)) (kk : Rn Z M (pc + 1) ls (.ref y :: st) w ca sa K) : Rn Z M pc ls (.int i :: .ref o :: st) w ca sa K := by
  intro p e s m args below meth c H locs cells slots mc ms A ad0 ad ws tys la sta hC hW hL hS hp h1 h2
  obtain ⟨_, _, rfl, rfl, _, _, rfl, ⟨a, ha, rfl⟩, hS⟩ := hS
  obtain ⟨a', ha', k0, t0, cA, g, h0, ht, hrf, hg⟩ := hW.1.2.2 _ _ ho
  cases ha.symm.trans ha'
  obtain ⟨a2, ha2, hg2⟩ := hg _ _ hy
  have hlt : i.toNatClampNeg < l.length := Nat.not_le.mp fun q => hin (Or.inr q)
  exact W.aald (v := .ref a2) (ty := ty) hC.1 hC.2.1 (hW.2.1 k0 _ h0) ((hW.2.2.1.2 t0 _ ht).1 l.length (fun j => va_rf (g j))) hrf (fun q => by cases q) (by show ¬ (i < 0 ∨ (arrV _ _ _).slots.size ≤ _); rw [arrV_size]; exact hin) (by show (arrV _ _ _).slots[_]? = _; rw [arrV_read _ _ hlt, hg2]; rfl) rfl rfl hd (kk.go hC hW hL ⟨_, _, rfl, ⟨a2, ha2, rfl⟩, hS⟩ hp h1 h2)
theorem rn_sload {o : Nat} {i x : Int32} (hd : decode M.2.1 pc = .ok (.iaload, 1)) (ho : w[o]? = some rn_s) (h : aG Z.2.2.2.2 Z.2.2.2.1 i = some x) (kk : Rn Z M (pc + 1) ls (.int x :: st) w ca sa K) : Rn Z M pc ls (.int i :: .ref o :: st) w ca sa K := by
  intro p e s m args below meth c H locs cells slots mc ms A ad0 ad ws tys la sta hC hW hL hS hp h1 h2
  obtain ⟨_, _, rfl, rfl, _, _, rfl, ⟨a, ha, rfl⟩, hS⟩ := hS
  obtain ⟨a', ha', hb⟩ := hW.1.2.2 _ _ ho
  have hb : a' = _ := hb
  cases ha.symm.trans ha'
  subst hb
  obtain ⟨hin, rfl⟩ := aG_some h
  exact va_sld hC.1 hC.2.1 hC.2.2.2.2.2.2.2.2.2.1 hC.2.2.2.2.2.2.2.2.2.2.1 hC.2.2.2.2.2.2.2.2.2.2.2.1 hW.2.2.2.2 hin hd (kk.go hC hW hL ⟨_, _, rfl, rfl, hS⟩ hp h1 h2)
theorem rn_slen {o : Nat} (hd : decode M.2.1 pc = .ok (.arraylength, 1)) (ho : w[o]? = some rn_s) (kk : Rn Z M (pc + 1) ls (.int (Int32.ofNat Z.2.2.2.1) :: st) w ca sa K) : Rn Z M pc ls (.ref o :: st) w ca sa K := by
  intro p e s m args below meth c H locs cells slots mc ms A ad0 ad ws tys la sta hC hW hL hS hp h1 h2
  obtain ⟨_, _, rfl, ⟨a, ha, rfl⟩, hS⟩ := hS
  obtain ⟨a', ha', hb⟩ := hW.1.2.2 _ _ ho
  have hb : a' = _ := hb
  cases ha.symm.trans ha'
  subst hb
  exact va_slen hC.1 hC.2.1 hC.2.2.2.2.2.2.2.2.2.1 hC.2.2.2.2.2.2.2.2.2.2.1 hC.2.2.2.2.2.2.2.2.2.2.2.1 hW.2.2.2.2 hd (kk.go hC hW hL ⟨_, _, rfl, rfl, hS⟩ hp h1 h2)
theorem rn_iastore {o n : Nat} {f f1 : Nat → Int32} {i : Int32} {x : Int32} (hd : decode M.2.1 pc = .ok (.iastore, 1)) (ho : w[o]? = some (rn_i .int n f)) (h : aS f n i (x) = some f1) (hw2 : w.set o (rn_i .int n f1) = w2) (kk : Rn Z M (pc + 1) ls st w2 ca sa K) : Rn Z M pc ls (.int x :: .int i :: .ref o :: st) w ca sa K := by
  intro p e s m args below meth c H locs cells slots mc ms A ad0 ad ws tys la sta hC hW hL hS hp h1 h2
  obtain ⟨_, _, rfl, rfl, _, _, rfl, rfl, _, _, rfl, ⟨a, ha, rfl⟩, hS⟩ := hS
  obtain ⟨a', ha', k0, t0, cA, h0, ht⟩ := hW.1.2.2 _ _ ho
  cases ha.symm.trans ha'
  subst hw2
  obtain ⟨hin, hf1⟩ := aS_some h
  refine va_iast hC.1 hC.2.1 hW.2.2.1 hW.2.1 hW.2.2.2.1 hW.2.2.2.2 k0 t0 h0 ht hin hd (fun H1 locs1 q1 q2 q3 => ?_)
  subst hf1
  exact kk.go hC ⟨rn_w_set hW.1 ha h0 ⟨k0, t0, cA, List.getElem?_set_self (List.getElem?_eq_some_iff.mp h0).1, ht⟩, q1, hW.2.2.1, q2, q3⟩ hL hS hp h1 h2
theorem rn_castore {o n : Nat} {f f1 : Nat → Int32} {i : Int32} {x : Int32} (hd : decode M.2.1 pc = .ok (.castore, 1)) (ho : w[o]? = some (rn_i .char n f)) (h : aS f n i (rn_ch x) = some f1) (hw2 : w.set o (rn_i .char n f1) = w2) (kk : Rn Z M (pc + 1) ls st w2 ca sa K) : Rn Z M pc ls (.int x :: .int i :: .ref o :: st) w ca sa K := by
  intro p e s m args below meth c H locs cells slots mc ms A ad0 ad ws tys la sta hC hW hL hS hp h1 h2
  obtain ⟨_, _, rfl, rfl, _, _, rfl, rfl, _, _, rfl, ⟨a, ha, rfl⟩, hS⟩ := hS
  obtain ⟨a', ha', k0, t0, cA, h0, ht⟩ := hW.1.2.2 _ _ ho
  cases ha.symm.trans ha'
  subst hw2
  obtain ⟨hin, hf1⟩ := aS_some h
  refine va_cast hC.1 hC.2.1 hW.2.2.1 hW.2.1 hW.2.2.2.1 hW.2.2.2.2 k0 t0 h0 ht hin hd (fun H1 locs1 q1 q2 q3 => ?_)
  subst hf1
  exact kk.go hC ⟨rn_w_set hW.1 ha h0 ⟨k0, t0, cA, List.getElem?_set_self (List.getElem?_eq_some_iff.mp h0).1, ht⟩, q1, hW.2.2.1, q2, q3⟩ hL hS hp h1 h2
theorem rn_lastore {o n : Nat} {f f1 : Nat → Int64} {i : Int32} {x : Int64} (hd : decode M.2.1 pc = .ok (.lastore, 1)) (ho : w[o]? = some (rn_l n f)) (h : aS f n i (x) = some f1) (hw2 : w.set o (rn_l n f1) = w2) (kk : Rn Z M (pc + 1) ls st w2 ca sa K) : Rn Z M pc ls (.long x :: .int i :: .ref o :: st) w ca sa K := by
  intro p e s m args below meth c H locs cells slots mc ms A ad0 ad ws tys la sta hC hW hL hS hp h1 h2
  obtain ⟨_, _, rfl, rfl, _, _, rfl, rfl, _, _, rfl, ⟨a, ha, rfl⟩, hS⟩ := hS
  obtain ⟨a', ha', k0, t0, cA, h0, ht⟩ := hW.1.2.2 _ _ ho
  cases ha.symm.trans ha'
  subst hw2
  obtain ⟨hin, hf1⟩ := aS_some h
  refine va_last hC.1 hC.2.1 hW.2.2.1 hW.2.1 hW.2.2.2.1 hW.2.2.2.2 k0 t0 h0 ht hin hd (fun H1 locs1 q1 q2 q3 => ?_)
  subst hf1
  exact kk.go hC ⟨rn_w_set hW.1 ha h0 ⟨k0, t0, cA, List.getElem?_set_self (List.getElem?_eq_some_iff.mp h0).1, ht⟩, q1, hW.2.2.1, q2, q3⟩ hL hS hp h1 h2
theorem rn_last {α : Type} {l : List α} {x : α} : (l ++ [x])[l.length]? = some x := by
  rw [List.getElem?_append_right (Nat.le_refl _), Nat.sub_self]; rfl
theorem rn_addr {ad : List Nat} {b j a : Nat} {tys : List (ClassId × FieldType)} {ws : va_W} (hw : rn_w ad b tys w ws) (hj : ad[j]? = some a) : a = b ∨ ∃ (k : Nat) (x : va_E), ws[k]? = some (a, x) := by
  have hl : j < w.length := by rw [← hw.1]; exact (List.getElem?_eq_some_iff.mp hj).1
  obtain ⟨a', h1, h2⟩ := hw.2.2 j _ (List.getElem?_eq_getElem hl)
  cases hj.symm.trans h1
  revert h2
  generalize w[j] = cell
  intro h2
  match cell, h2 with
  | .inl (ty, n, f), ⟨k, t0, cA, g1, _⟩ => exact Or.inr ⟨k, _, g1⟩
  | .inr (.inl (n, f)), ⟨k, t0, cA, g1, _⟩ => exact Or.inr ⟨k, _, g1⟩
  | .inr (.inr (.inl (ty, l))), ⟨k, t0, cA, g, g1, _⟩ => exact Or.inr ⟨k, _, g1⟩
  | .inr (.inr (.inr (.inl (ci, fs)))), ⟨k, us, g1, _⟩ => exact Or.inr ⟨k, _, g1⟩
  | .inr (.inr (.inr (.inr _))), h => exact Or.inl h
/-- a new cell's address is none of the old ones -/
theorem rn_fresh {ad : List Nat} {b q : Nat} {tys : List (ClassId × FieldType)} {ws : va_W} {A : Nat → Prop} {e : va_E} (hw : rn_w ad b tys w ws) (hD : va_D A (ws ++ [(q, e)])) (hb : ¬ A b) : ∀ (j a : Nat), ad[j]? = some a → a ≠ q := by
  intro j a hj hqa
  subst hqa
  have hA : A a := hD.2 ws.length (a, e) rn_last
  rcases rn_addr hw hj with h | ⟨k, x, hk⟩
  · exact hb (h ▸ hA)
  · have h3 := hD.1 k ws.length (a, x) (a, e) (rn_gl hk) rn_last rfl
    have h4 := (List.getElem?_eq_some_iff.mp hk).1
    omega
def rn_Nw (own : String) (idx ci N : Nat) (fs : List Value) : Prop := ∃ (C : String) (T : u_T) (ty : Nat → FieldType), rn_Cl ci C T N ty ∧ Cond.classLink own idx C ∈ rn_tb ∧ Cond.instantiable C N ∈ rn_tb ∧ Cond.initialized C ∈ rn_tb ∧ (∀ j, j < N → defaultValue (ty j) = vp_V fs j) ∧ ∀ ad, rn_vs ad fs fs
theorem rn_new {idx ci N : Nat} {fs : List Value} (hf : rn_Nw M.1.cls idx ci N fs) (hd : decode M.2.1 pc = .ok (.new idx, 3)) (hw2 : w ++ [rn_o ci fs] = w2) (kk : Rn Z M (pc + 3) ls (.ref w.length :: st) w2 ca sa K) : Rn Z M pc ls st w (ca + 1) (sa + N) K := by
  intro p e s m args below meth c H locs cells slots mc ms A ad0 ad ws tys la sta hC hW hL hS hp h1 h2
  obtain ⟨C, T, ty, ⟨c1, c2, c3, c4⟩, w1, w2', w3, hdef, hfs⟩ := hf
  subst hw2
  refine va_new hC.1 hC.2.1 hC.2.2.2.2.1 c2 ty c3 hC.2.2.2.1 (hC.2.2.2.2.1 _ w1) (hC.2.2.2.2.1 _ w2') (hC.2.2.2.2.1 _ w3) hW.2.2.1 hW.2.1 hW.2.2.2.1 hW.2.2.2.2 hC.2.2.2.2.2.2.2.2.1 c1 hdef (show cells + 1 ≤ mc by omega) (show slots + N ≤ ms by omega) hd (fun q H1 q1 q2 q3 => ?_)
  have hq := rn_fresh hW.1 q2 hC.2.2.2.2.2.2.2.2.2.2.2.1
  have hlen : ad.length = w.length := hW.1.1
  have hpush := rn_w_push (t2 := []) (c1 := rn_o ci fs) (e1 := .inr (ci, fs)) hW.1 hq ⟨ws.length, fs, rn_last, hfs _⟩
  rw [List.append_nil] at hpush
  obtain ⟨l0, hl0⟩ := hp
  exact kk.go hC ⟨hpush, q1, hW.2.2.1, q2, q3⟩ (rn_L_grow hL) ⟨_, _, rfl, ⟨q, by rw [← hlen]; exact rn_last, rfl⟩, rn_vs_grow hS⟩ ⟨l0 ++ [q], by rw [hl0, List.append_assoc]⟩ (by omega) (by omega)
theorem rn_newI {n : Int32} {N : Nat} (hw : Cond.arrayClass .int ∈ rn_tb) (hd : decode M.2.1 pc = .ok (.newarray .int, 2)) (hn : ¬ n < 0) (hN : n.toNatClampNeg = N) (hb : N * componentBytes .int ≤ 536870912) (hw2 : w ++ [rn_i .int N (fun _ => 0)] = w2) (kk : Rn Z M (pc + 2) ls (.ref w.length :: st) w2 ca sa K) : Rn Z M pc ls (.int n :: st) w (ca + 1) (sa + N) K := by
  intro p e s m args below meth c H locs cells slots mc ms A ad0 ad ws tys la sta hC hW hL hS hp h1 h2
  obtain ⟨_, _, rfl, rfl, hS⟩ := hS
  subst hw2
  refine va_newa (a0 := (N, .inl (fun _ => 0))) hC.1 hC.2.1 (atype := .int) (hC.2.2.2.2.1 _ hw) rfl hW.2.2.1 hW.2.1 hW.2.2.2.1 hW.2.2.2.2 hC.2.2.2.2.2.2.2.2.1 (fun cA => rfl) hn hN hb (show cells + 1 ≤ mc by omega) (show slots + N ≤ ms by omega) hd (fun q cA H1 q0 q1 q2 q3 => ?_)
  have hq := rn_fresh hW.1 q2 hC.2.2.2.2.2.2.2.2.2.2.2.1
  have hlen : ad.length = w.length := hW.1.1
  have hpush := rn_w_push (t2 := [(cA, .int)]) (c1 := rn_i .int N (fun _ => 0)) (e1 := .inl (cA, (N, .inl (fun _ => 0)))) hW.1 hq ⟨ws.length, tys.length, cA, rn_last, rn_last⟩
  obtain ⟨l0, hl0⟩ := hp
  exact kk.go hC ⟨hpush, q1, q0, q2, q3⟩ (rn_L_grow hL) ⟨_, _, rfl, ⟨q, by rw [← hlen]; exact rn_last, rfl⟩, rn_vs_grow hS⟩ ⟨l0 ++ [q], by rw [hl0, List.append_assoc]⟩ (by omega) (by omega)
theorem rn_newC {n : Int32} {N : Nat} (hw : Cond.arrayClass .char ∈ rn_tb) (hd : decode M.2.1 pc = .ok (.newarray .char, 2)) (hn : ¬ n < 0) (hN : n.toNatClampNeg = N) (hb : N * componentBytes .char ≤ 536870912) (hw2 : w ++ [rn_i .char N (fun _ => 0)] = w2) (kk : Rn Z M (pc + 2) ls (.ref w.length :: st) w2 ca sa K) : Rn Z M pc ls (.int n :: st) w (ca + 1) (sa + N) K := by
  intro p e s m args below meth c H locs cells slots mc ms A ad0 ad ws tys la sta hC hW hL hS hp h1 h2
  obtain ⟨_, _, rfl, rfl, hS⟩ := hS
  subst hw2
  refine va_newa (a0 := (N, .inl (fun _ => 0))) hC.1 hC.2.1 (atype := .char) (hC.2.2.2.2.1 _ hw) rfl hW.2.2.1 hW.2.1 hW.2.2.2.1 hW.2.2.2.2 hC.2.2.2.2.2.2.2.2.1 (fun cA => rfl) hn hN hb (show cells + 1 ≤ mc by omega) (show slots + N ≤ ms by omega) hd (fun q cA H1 q0 q1 q2 q3 => ?_)
  have hq := rn_fresh hW.1 q2 hC.2.2.2.2.2.2.2.2.2.2.2.1
  have hlen : ad.length = w.length := hW.1.1
  have hpush := rn_w_push (t2 := [(cA, .char)]) (c1 := rn_i .char N (fun _ => 0)) (e1 := .inl (cA, (N, .inl (fun _ => 0)))) hW.1 hq ⟨ws.length, tys.length, cA, rn_last, rn_last⟩
  obtain ⟨l0, hl0⟩ := hp
  exact kk.go hC ⟨hpush, q1, q0, q2, q3⟩ (rn_L_grow hL) ⟨_, _, rfl, ⟨q, by rw [← hlen]; exact rn_last, rfl⟩, rn_vs_grow hS⟩ ⟨l0 ++ [q], by rw [hl0, List.append_assoc]⟩ (by omega) (by omega)
theorem rn_newL {n : Int32} {N : Nat} (hw : Cond.arrayClass .long ∈ rn_tb) (hd : decode M.2.1 pc = .ok (.newarray .long, 2)) (hn : ¬ n < 0) (hN : n.toNatClampNeg = N) (hb : N * componentBytes .long ≤ 536870912) (hw2 : w ++ [rn_l N (fun _ => 0)] = w2) (kk : Rn Z M (pc + 2) ls (.ref w.length :: st) w2 ca sa K) : Rn Z M pc ls (.int n :: st) w (ca + 1) (sa + N) K := by
  intro p e s m args below meth c H locs cells slots mc ms A ad0 ad ws tys la sta hC hW hL hS hp h1 h2
  obtain ⟨_, _, rfl, rfl, hS⟩ := hS
  subst hw2
  refine va_newa (a0 := (N, .inr (.inl (fun _ => 0)))) hC.1 hC.2.1 (atype := .long) (hC.2.2.2.2.1 _ hw) rfl hW.2.2.1 hW.2.1 hW.2.2.2.1 hW.2.2.2.2 hC.2.2.2.2.2.2.2.2.1 (fun cA => rfl) hn hN hb (show cells + 1 ≤ mc by omega) (show slots + N ≤ ms by omega) hd (fun q cA H1 q0 q1 q2 q3 => ?_)
  have hq := rn_fresh hW.1 q2 hC.2.2.2.2.2.2.2.2.2.2.2.1
  have hlen : ad.length = w.length := hW.1.1
  have hpush := rn_w_push (t2 := [(cA, .long)]) (c1 := rn_l N (fun _ => 0)) (e1 := .inl (cA, (N, .inr (.inl (fun _ => 0))))) hW.1 hq ⟨ws.length, tys.length, cA, rn_last, rn_last⟩
  obtain ⟨l0, hl0⟩ := hp
  exact kk.go hC ⟨hpush, q1, q0, q2, q3⟩ (rn_L_grow hL) ⟨_, _, rfl, ⟨q, by rw [← hlen]; exact rn_last, rfl⟩, rn_vs_grow hS⟩ ⟨l0 ++ [q], by rw [hl0, List.append_assoc]⟩ (by omega) (by omega)
/-- Object.<init> -/
theorem rn_objInit {idx : Nat} {v : Nat} (hl : Cond.methodLink M.1.cls idx Lib.objectInit ∈ rn_tb) (hi : Cond.instanceMethod Lib.objectInit ∈ rn_tb) (hc : Cond.code Lib.objectInit ⟨#[0xb1]⟩ 1 none ∈ rn_tb) (hd : decode M.2.1 pc = .ok (.invokespecial idx, 3)) (hf : 1 ≤ M.2.2.2.2.1) (hr : (st.map fun v => v.category).sum + 12 ≤ M.2.2.2.2.2) (kk : Rn Z M (pc + 3) ls st w ca sa K) : Rn Z M pc ls (.ref v :: st) w ca sa K := by
  intro p e s m args below meth c H locs cells slots mc ms A ad0 ad ws tys la sta hC hW hL hS hp h1 h2
  obtain ⟨_, us, rfl, ⟨a, ha, rfl⟩, hS⟩ := hS
  have hcat := rn_vs_cats hS
  exact W.objInit hC.1 hC.2.1 hC.2.2.2.1 (hC.2.2.2.2.1 _ hl) (hC.2.2.2.2.1 _ hi) (hC.2.2.2.2.1 _ hc) rfl (hL.1.trans hC.2.2.1.symm) rfl hd hf (show 2 * 0 + (us.map fun v => v.category).sum + 12 ≤ M.2.2.2.2.2 by rw [hcat]; omega) (kk.go hC hW hL hS hp h1 h2)
/-! ends -/
theorem rn_end {p : Program} {s t : State} {H : Heap} {locs : List Loc} {args : Array Value} {m : MethodId} {meth : Method} {c : Code} {A : Nat → Prop} {ad0 ad : List Nat} {ws : va_W} {tys : List (ClassId × FieldType)} {r v : Option Value} {a : Array Value} (hW : rn_Wd Z A s H locs ad tys w ws) (hp : ∃ l, ad = ad0 ++ l) (hr : rn_oo ad r v) (ht : t.heap = H) (hw : s.WarmedH t.vm) : rn_Q Z A ad0 r w a s (.returned v) t :=
  ⟨⟨ad, ws, tys, v, hp, rfl, hr, hW.1, by rw [ht]; exact hW.2.1, va_K.moved hw.alike hW.2.2.1, hW.2.2.2.1⟩, hW.2.2.2.2.F ht⟩
theorem rn_ireturn {x : Int32} (hd : decode M.2.1 pc = .ok (.ireturn, 1)) (hr : M.2.2.2.1 = some .int) : Rn Z M pc ls [.int x] w ca sa (rn_Ret Z (some (.int x)) w) := by
  intro p e s m args below meth c H locs cells slots mc ms A ad0 ad ws tys la sta hC hW hL hS hp h1 h2
  obtain ⟨_, _, rfl, rfl, hS⟩ := hS
  have hS : _ = _ := hS
  subst hS
  refine W.widen (k := mc) (n := ms) (by omega) (by omega) ?_
  exact W.iret (v := x) hC.1 hC.2.1 (hC.2.2.2.2.2.2.1.trans hr) (fun t ht hw => rn_end (r := some (.int x)) (p := p) (m := m) (meth := meth) (c := c) (args := args) hW hp ⟨_, rfl, rfl⟩ ht hw) hW.2.2.2.2.2.2 hd hC.2.2.2.2.2.1
theorem rn_zreturn {x : Int32} (hd : decode M.2.1 pc = .ok (.ireturn, 1)) (hr : M.2.2.2.1 = some .boolean) (hx : x = 0 ∨ x = 1) : Rn Z M pc ls [.int x] w ca sa (rn_Ret Z (some (.int x)) w) := by
  intro p e s m args below meth c H locs cells slots mc ms A ad0 ad ws tys la sta hC hW hL hS hp h1 h2
  obtain ⟨_, _, rfl, rfl, hS⟩ := hS
  have hS : _ = _ := hS
  subst hS
  refine W.widen (k := mc) (n := ms) (by omega) (by omega) ?_
  exact W.zret (v := x) (ty := .boolean) hC.1 hC.2.1 (hC.2.2.2.2.2.2.1.trans hr) (by rcases hx with rfl | rfl <;> rfl) (fun t ht hw => rn_end (r := some (.int x)) (p := p) (m := m) (meth := meth) (c := c) (args := args) hW hp ⟨_, rfl, rfl⟩ ht hw) hW.2.2.2.2.2.2 hd hC.2.2.2.2.2.1
theorem rn_lreturn {x : Int64} (hd : decode M.2.1 pc = .ok (.lreturn, 1)) (hr : M.2.2.2.1 = some .long) : Rn Z M pc ls [.long x] w ca sa (rn_Ret Z (some (.long x)) w) := by
  intro p e s m args below meth c H locs cells slots mc ms A ad0 ad ws tys la sta hC hW hL hS hp h1 h2
  obtain ⟨_, _, rfl, rfl, hS⟩ := hS
  have hS : _ = _ := hS
  subst hS
  refine W.widen (k := mc) (n := ms) (by omega) (by omega) ?_
  exact W.lret (v := x) hC.1 hC.2.1 (hC.2.2.2.2.2.2.1.trans hr) (fun t ht hw => rn_end (r := some (.long x)) (p := p) (m := m) (meth := meth) (c := c) (args := args) hW hp ⟨_, rfl, rfl⟩ ht hw) hW.2.2.2.2.2.2 hd hC.2.2.2.2.2.1
theorem rn_return (hd : decode M.2.1 pc = .ok (.return_, 1)) (hr : M.2.2.2.1 = none) : Rn Z M pc ls [] w ca sa (rn_Ret Z none w) := by
  intro p e s m args below meth c H locs cells slots mc ms A ad0 ad ws tys la sta hC hW hL hS hp h1 h2
  have hS : _ = _ := hS
  subst hS
  refine W.widen (k := mc) (n := ms) (by omega) (by omega) ?_
  exact W.vret hC.1 hC.2.1 (hC.2.2.2.2.2.2.1.trans hr) (fun t ht hw => rn_end (r := none) (p := p) (m := m) (meth := meth) (c := c) (args := args) hW hp (show rn_oo ad none none from rfl) ht hw) hW.2.2.2.2.2.2 hd hC.2.2.2.2.2.1
end
end
section
/-! The core, third part: calls, and a world under other numbers. -/
theorem rn_pay {args : Array Value} {s : State} (hts : ∀ w ∈ rn_tb, w.before args s = true) : ∀ w ∈ rn_tb, ∀ (a' : Array Value) (U : State), s.WarmedH U.vm → w.before a' U = true := fun w hw a' U hW => rn_warm (List.mem_filter.mp hw).2 (hts w hw) hW
theorem rn_blind {Z : rn_Z} {ws : va_W} {tys : List (ClassId × FieldType)} {ava : List Value} {sz : Nat} : FrameBlind (rn_P Z ws tys ava sz) := fun a U g mk q => by
  obtain ⟨q0, q1, qP, qK, qD, qX, qb, qn, qT⟩ := q
  exact ⟨q0, q1, qP, va_K.moved (u := U) (U := U.calling g mk a) (Vm.Alike.refl U.vm) qK, qD, va_X.moved (u := U) (U := U.calling g mk a) (Vm.Alike.refl U.vm) qX, qb, qn, qT.same (s := U) (U := U.calling g mk a) rfl⟩
def rn_Fit (M N : rn_M) : Prop := N.2.2.2.2.1 + 1 ≤ M.2.2.2.2.1 ∧ 8 + (N.2.2.1 + 11) + N.2.2.2.2.2 ≤ M.2.2.2.2.2
def rn_Inv (N : rn_M) (n : Nat) : Prop := Cond.code N.1 N.2.1 N.2.2.1 N.2.2.2.1 ∈ rn_tb ∧ Cond.initialized N.1.cls ∈ rn_tb ∧ (N.1.cls ≠ "java/lang/invoke/MethodHandle" ∧ N.1.cls ≠ "java/lang/invoke/VarHandle") ∧ (parseMethodDescriptor N.1.desc).map (fun d => d.parameters.length) = some n
def rn_IV (own : String) (idx : Nat) (N : rn_M) (n ci : Nat) : Prop := rn_Inv N n ∧ (Cond.methodLink own idx N.1 ∈ rn_tb ∨ ∃ host, Cond.methodLinkNest own idx N.1 host ∈ rn_tb) ∧ Cond.instanceMethod N.1 ∈ rn_tb ∧ Cond.selects N.1.cls N.1 N.1 ∈ rn_tb ∧ ∃ q : vw_C, rn_cl[ci]? = some q ∧ q.1 = N.1.cls
def rn_IS (own : String) (idx : Nat) (N : rn_M) (n : Nat) : Prop := rn_Inv N n ∧ (Cond.methodLink own idx N.1 ∈ rn_tb ∨ ∃ host, Cond.methodLinkNest own idx N.1 host ∈ rn_tb) ∧ Cond.static N.1 ∈ rn_tb
def rn_II (own : String) (idx : Nat) (N : rn_M) (n : Nat) : Prop := rn_Inv N n ∧ (Cond.methodLink own idx N.1 ∈ rn_tb ∨ ∃ host, Cond.methodLinkNest own idx N.1 host ∈ rn_tb) ∧ Cond.instanceMethod N.1 ∈ rn_tb ∧ N.1.name = "<init>"
section
variable {Z : rn_Z} {M N : rn_M} {pc : Nat} {ls : List (Option Value)} {st st0 : List Value} {w w1 : List rn_C} {ca sa ca' sa' : Nat} {K : rn_K} {r : Option Value}
theorem rn_callB {R : Room} {s : State} {args : Array Value} {own : String} {idx n : Nat} (hts : ∀ w ∈ rn_tb, w.before args s = true) (hI : rn_Inv N n) (hl : Cond.methodLink own idx N.1 ∈ rn_tb) (hf : N.2.2.2.2.1 + 1 ≤ R.frames ∧ 8 + (N.2.2.1 + 11) + N.2.2.2.2.2 ≤ R.locals) : CallB R s args own idx N.1 N.2.1 N.2.2.1 N.2.2.2.1 (rn_ws N) (rn_R N ca' sa') ca' sa' n := by
  refine ⟨rfl, rfl, hf.1, hf.2, fun w hw => ?_, List.mem_cons_self, hts _ hI.1, hts _ hI.2.1, hI.2.2.1, fun sig h => ?_, hts _ hl⟩
  · rcases List.mem_cons.mp hw with h | h
    · subst h
      exact rn_pay hts _ hI.1
    · exact rn_pay hts _ h
  · have h2 := hI.2.2.2
    rw [h] at h2
    exact (Option.some.inj h2).symm
theorem rn_callN {R : Room} {s : State} {args : Array Value} {own host : String} {idx n : Nat} (hts : ∀ w ∈ rn_tb, w.before args s = true) (hI : rn_Inv N n) (hl : Cond.methodLinkNest own idx N.1 host ∈ rn_tb) (hf : N.2.2.2.2.1 + 1 ≤ R.frames ∧ 8 + (N.2.2.1 + 11) + N.2.2.2.2.2 ≤ R.locals) : va_CN R s args own idx N.1 host N.2.1 N.2.2.1 N.2.2.2.1 (rn_ws N) (rn_R N ca' sa') ca' sa' n := by
  refine ⟨⟨rfl, rfl, hf.1, hf.2, fun w hw => ?_, List.mem_cons_self⟩, hts _ hI.1, hts _ hI.2.1, hI.2.2.1, fun sig h => ?_, hts _ hl⟩
  · rcases List.mem_cons.mp hw with h | h
    · subst h
      exact rn_pay hts _ hI.1
    · exact rn_pay hts _ h
  · have h2 := hI.2.2.2
    rw [h] at h2
    exact (Option.some.inj h2).symm
theorem rn_pre {p : Program} {s : State} {m : MethodId} {args : Array Value} {meth : Method} {c : Code} {H : Heap} {locs : List Loc} {A : Nat → Prop} {ad : List Nat} {ws : va_W} {tys : List (ClassId × FieldType)} {ava : List Value} (hC : rn_X Z M p s m args meth c A) (hW : rn_Wd Z A s H locs ad tys w ws) : ∀ U : State, U.heap = H → s.WarmedH U.vm → rn_P Z ws tys ava H.size ava.toArray U := by
  intro U hU hw
  have hX := va_X.kept hC.2.2.2.2.2.2.2.2.2.1 (hW.2.2.2.2.2.1 _ hC.2.2.2.2.2.2.2.2.2.2.1 hC.2.2.2.2.2.2.2.2.2.2.2.1)
  refine ⟨rfl, by rw [hU], by rw [hU]; exact hW.2.1, va_K.moved hw.alike hW.2.2.1, hW.2.2.2.1.weaken (fun _ _ _ _ => trivial), by rw [hU]; exact va_X.moved hw.alike hX, Nat.lt_of_lt_of_le hC.2.2.2.2.2.2.2.2.2.2.1 hW.2.2.2.2.1, fun k e hk => ?_, ?_⟩
  · exact hC.2.2.2.2.2.2.2.2.2.2.2.1 (hW.2.2.2.1.2 k _ hk)
  · rw [hU]
    refine rn_Th.warm hw ((hC.2.2.2.2.2.2.2.2.2.2.2.2.kept hW.2.2.2.2.2.1).narrow (fun q hq => ?_))
    rcases hq with ⟨k0, e0, hk0⟩ | hq
    · exact hW.2.2.2.1.2 k0 _ hk0
    · exact hC.2.2.2.2.2.2.2.2.1 q (Nat.le_trans hW.2.2.2.2.1 hq)
/-- behind a call -/
theorem rn_goon {p : Program} {e : Env} {s : State} {m : MethodId} {args : Array Value} {below : List Frame} {meth : Method} {c : Code} {H : Heap} {locs : List Loc} {cells slots mc ms : Nat} {A : Nat → Prop} {ad0 ad : List Nat} {ws : va_W} {tys : List (ClassId × FieldType)} {la : Array Slot} {rest sta : List Value} {aa : Array Value}
    (hC : rn_X Z M p s m args meth c A) (hW : rn_Wd Z A s H locs ad tys w ws) (hL : rn_L ad la M.2.2.1 ls) (hS : rn_vs ad st rest) (hp : ∃ l, ad = ad0 ++ l) (h1 : cells + (ca + ca') ≤ mc) (h2 : slots + (sa + sa') ≤ ms)
    (hr : va_Run p Z.1 e (rn_R M mc ms) s m args below meth c H locs cells slots ca' sa' (F0 m pc la sta) rest (rn_Q Z (va_A ws H.size) ad r w1 aa) (va_A ws H.size))
    (k : Rn Z M (pc + 3) ls (r.toList ++ st) w1 ca sa K) : W p Z.1 e (rn_R M mc ms) s m args below meth c H locs cells slots (K below args s mc ms A ad0) (F0 m pc la sta) := by
  have hAA : ∀ q, va_A ws H.size q → A q := by
    intro q hq
    rcases hq with ⟨k0, e0, hk0⟩ | hq
    · exact hW.2.2.2.1.2 k0 _ hk0
    · exact hC.2.2.2.2.2.2.2.2.1 q (Nat.le_trans hW.2.2.2.2.1 hq)
  intro T hT X
  obtain ⟨v, st₀, t, T', L, h0, X', hLb, e1, e2, hq, stp⟩ := hr T hT X
  obtain ⟨⟨ad', ws', tys', v', ⟨l', hl'⟩, ho, hv, hw1, hP1, hK1, hD1⟩, hz, hkp⟩ := hq
  cases ho
  rw [h0] at hz hkp
  subst hl'
  obtain ⟨l0, hl0⟩ := hp
  have hal : t.vm.Alike s.vm := by rw [← e2]; exact X'.warmed.alike.symm
  have hP2 : va_P Z.2.1 rn_cl ws' T'.heap := by rw [e1]; exact hP1
  have hS2 : va_S A s.heap T'.heap (locs ++ L) := by
    refine ⟨by rw [e1]; exact Nat.le_trans hW.2.2.2.2.1 hz, fun q g1 g2 => ?_, fun q hq => ?_⟩
    · rw [e1, hkp q (Nat.lt_of_lt_of_le g1 hW.2.2.2.2.1) (fun z => g2 (hAA q z))]
      exact hW.2.2.2.2.2.1 q g1 g2
    · rcases List.mem_append.mp hq with h | h
      · exact hW.2.2.2.2.2.2 q h
      · exact hAA _ (hLb q h)
  have hst : rn_vs (ad ++ l') (r.toList ++ st) (v.toList ++ rest) := by
    cases r with
    | none =>
      have hv : v = none := hv
      subst hv
      exact rn_vs_grow hS
    | some x =>
      obtain ⟨u, rfl, hu⟩ := hv
      exact ⟨u, rest, rfl, hu, rn_vs_grow hS⟩
  have hWd2 : rn_Wd Z A s T'.heap (locs ++ L) (ad ++ l') tys' w1 ws' := ⟨hw1, hP2, va_K.moved hal hK1, hD1.weaken (fun _ _ _ q => hAA _ q), hS2⟩
  obtain ⟨t2, a1, b1⟩ := k.go (p := p) (e := e) (below := below) (cells := cells + ca') (slots := slots + sa') (mc := mc) (ms := ms) (ad0 := ad0) hC hWd2 (rn_L_grow hL) hst ⟨l0 ++ l', by rw [hl0, List.append_assoc]⟩ (by omega) (by omega) T' rfl X'
  exact ⟨t2, stp t2 a1, b1⟩
theorem rn_invV {idx n ci ob : Nat} {av : List Value} {fs : List Value} (hc : Call Z N (.ref ob :: av) w ca' sa' r w1) (hI : rn_IV M.1.cls idx N n ci) (hf : rn_Fit M N) (hd : decode M.2.1 pc = .ok (.invokevirtual idx, 3)) (ho : w[ob]? = some (rn_o ci fs)) (hn : av.length = n) (hst : av.reverse ++ .ref ob :: st = st0) (hrm : (st.map fun v => v.category).sum ≤ 8) (k : Rn Z M (pc + 3) ls (r.toList ++ st) w1 ca sa K) : Rn Z M pc ls st0 w (ca + ca') (sa + sa') K := by
  intro p e s m args below meth c H locs cells slots mc ms A ad0 ad ws tys la sta hC hW hL hS hp h1 h2
  subst hst
  obtain ⟨u1, u2, rfl, g1, u, rest, rfl, ⟨a, ha, rfl⟩, g2⟩ := rn_vs_app hS
  have hav : rn_vs ad av u1.reverse := by have := rn_vs_rev g1; rwa [List.reverse_reverse] at this
  have hlen : u1.reverse.length = n := by rw [rn_vs_len hav]; exact hn
  obtain ⟨a', ha', k0, us, h0, hus⟩ := hW.1.2.2 _ _ ho
  cases ha.symm.trans ha'
  obtain ⟨hI0, hl, hi, hse, q, hq, hqc⟩ := hI
  have hM := hc ad ws tys (.ref a :: u1.reverse) H.size ⟨_, _, rfl, ⟨a, ha, rfl⟩, hav⟩ hW.1
  have hrc : ∃ cell : Cell, H[a]? = some cell ∧ cell.vm.isStatics = false ∧ s.vm.findClass N.1.cls = some cell.cls := by rw [← hqc]; exact va_recv hW.2.2.1 hW.2.1 hq h0
  have hcat : 2 * (F0 m pc la (u1 ++ .ref a :: rest)).monitorRoom + (rest.map fun v => v.category).sum ≤ 8 := lv_room (by rw [rn_vs_cats g2]; exact hrm)
  rcases hl with hl | ⟨host, hl⟩
  · exact rn_goon hC hW hL g2 hp h1 h2 (va_runV (b := a) (As := u1.reverse) (rest := rest) ⟨hC.1, hC.2.1, hC.2.2.1, hC.2.2.2.1, hC.2.2.2.2.1⟩ hM ⟨rn_callB hC.2.2.2.2.1 hI0 hl hf, hC.2.2.2.2.1 _ hi, hC.2.2.2.2.1 _ hse⟩ ⟨rn_blind, hrc, rn_pre hC hW⟩ rfl hlen hL.1 (by rw [List.reverse_reverse]) hcat hd ⟨(show cells + ca' ≤ mc by omega), (show slots + sa' ≤ ms by omega)⟩) k
  · exact rn_goon hC hW hL g2 hp h1 h2 (va_runVN (b := a) (As := u1.reverse) (rest := rest) ⟨hC.1, hC.2.1, hC.2.2.1, hC.2.2.2.1, hC.2.2.2.2.1⟩ hM ⟨rn_callN hC.2.2.2.2.1 hI0 hl hf, hC.2.2.2.2.1 _ hi, hC.2.2.2.2.1 _ hse⟩ ⟨rn_blind, hrc, rn_pre hC hW⟩ rfl hlen hL.1 (by rw [List.reverse_reverse]) hcat hd ⟨(show cells + ca' ≤ mc by omega), (show slots + sa' ≤ ms by omega)⟩) k
theorem rn_invS {idx n : Nat} {av : List Value} (hc : Call Z N av w ca' sa' r w1) (hI : rn_IS M.1.cls idx N n) (hf : rn_Fit M N) (hd : decode M.2.1 pc = .ok (.invokestatic idx, 3)) (hn : av.length = n) (hst : av.reverse ++ st = st0) (hrm : (st.map fun v => v.category).sum ≤ 8) (k : Rn Z M (pc + 3) ls (r.toList ++ st) w1 ca sa K) : Rn Z M pc ls st0 w (ca + ca') (sa + sa') K := by
  intro p e s m args below meth c H locs cells slots mc ms A ad0 ad ws tys la sta hC hW hL hS hp h1 h2
  subst hst
  obtain ⟨u1, rest, rfl, g1, g2⟩ := rn_vs_app hS
  have hav : rn_vs ad av u1.reverse := by have := rn_vs_rev g1; rwa [List.reverse_reverse] at this
  have hlen : u1.reverse.length = n := by rw [rn_vs_len hav]; exact hn
  obtain ⟨hI0, hl, hi⟩ := hI
  have hM := hc ad ws tys u1.reverse H.size hav hW.1
  have hcat : 2 * (F0 m pc la (u1 ++ rest)).monitorRoom + (rest.map fun v => v.category).sum ≤ 8 := lv_room (by rw [rn_vs_cats g2]; exact hrm)
  rcases hl with hl | ⟨host, hl⟩
  · exact rn_goon hC hW hL g2 hp h1 h2 (va_runS (As := u1.reverse) (rest := rest) ⟨hC.1, hC.2.1, hC.2.2.1, hC.2.2.2.1, hC.2.2.2.2.1⟩ hM ⟨rn_callB hC.2.2.2.2.1 hI0 hl hf, hC.2.2.2.2.1 _ hi⟩ ⟨rn_blind, rn_pre hC hW⟩ rfl hlen hL.1 (by rw [List.reverse_reverse]) hcat hd ⟨(show cells + ca' ≤ mc by omega), (show slots + sa' ≤ ms by omega)⟩) k
  · exact rn_goon hC hW hL g2 hp h1 h2 (va_runSN (As := u1.reverse) (rest := rest) ⟨hC.1, hC.2.1, hC.2.2.1, hC.2.2.2.1, hC.2.2.2.2.1⟩ hM ⟨rn_callN hC.2.2.2.2.1 hI0 hl hf, hC.2.2.2.2.1 _ hi, trivial⟩ ⟨rn_blind, rn_pre hC hW⟩ rfl hlen hL.1 (by rw [List.reverse_reverse]) hcat hd ⟨(show cells + ca' ≤ mc by omega), (show slots + sa' ≤ ms by omega)⟩) k
theorem rn_invI {idx n ob : Nat} {av : List Value} (hc : Call Z N (.ref ob :: av) w ca' sa' none w1) (hI : rn_II M.1.cls idx N n) (hnr : N.2.2.2.1 = none) (hf : rn_Fit M N) (hd : decode M.2.1 pc = .ok (.invokespecial idx, 3)) (hn : av.length = n) (hst : av.reverse ++ .ref ob :: st = st0) (hrm : (st.map fun v => v.category).sum ≤ 8) (k : Rn Z M (pc + 3) ls st w1 ca sa K) : Rn Z M pc ls st0 w (ca + ca') (sa + sa') K := by
  intro p e s m args below meth c H locs cells slots mc ms A ad0 ad ws tys la sta hC hW hL hS hp h1 h2
  subst hst
  obtain ⟨u1, u2, rfl, g1, u, rest, rfl, ⟨a, ha, rfl⟩, g2⟩ := rn_vs_app hS
  have hav : rn_vs ad av u1.reverse := by have := rn_vs_rev g1; rwa [List.reverse_reverse] at this
  have hlen : u1.reverse.length = n := by rw [rn_vs_len hav]; exact hn
  obtain ⟨hI0, hl, hi, hnm⟩ := hI
  have hM := hc ad ws tys (.ref a :: u1.reverse) H.size ⟨_, _, rfl, ⟨a, ha, rfl⟩, hav⟩ hW.1
  have hcat : 2 * (F0 m pc la (u1 ++ .ref a :: rest)).monitorRoom + (rest.map fun v => v.category).sum ≤ 8 := lv_room (by rw [rn_vs_cats g2]; exact hrm)
  rcases hl with hl | ⟨host, hl⟩
  · have hB := rn_callB (R := rn_R M mc ms) (ca' := ca') (sa' := sa') hC.2.2.2.2.1 hI0 hl hf
    rw [hnr] at hB
    exact rn_goon (r := none) hC hW hL g2 hp h1 h2 (va_runI (b := a) (As := u1.reverse) (rest := rest) ⟨hC.1, hC.2.1, hC.2.2.1, hC.2.2.2.1, hC.2.2.2.2.1⟩ hM ⟨hB, hnm, hC.2.2.2.2.1 _ hi⟩ ⟨rn_blind, rn_pre hC hW⟩ rfl hlen hL.1 (by rw [List.reverse_reverse]) hcat hd ⟨(show cells + ca' ≤ mc by omega), (show slots + sa' ≤ ms by omega)⟩) k
  · have hB := rn_callN (R := rn_R M mc ms) (ca' := ca') (sa' := sa') hC.2.2.2.2.1 hI0 hl hf
    rw [hnr] at hB
    exact rn_goon (r := none) hC hW hL g2 hp h1 h2 (va_runIN (b := a) (As := u1.reverse) (rest := rest) ⟨hC.1, hC.2.1, hC.2.2.1, hC.2.2.2.1, hC.2.2.2.2.1⟩ hM ⟨hB, hnm, hC.2.2.2.2.1 _ hi⟩ ⟨rn_blind, rn_pre hC hW⟩ rfl hlen hL.1 (by rw [List.reverse_reverse]) hcat hd ⟨(show cells + ca' ≤ mc by omega), (show slots + sa' ≤ ms by omega)⟩) k
theorem rn_mmin {idx : Nat} {x y : Int32} (hl : Cond.methodLink M.1.cls idx Lib.Math.min.name ∈ rn_tb) (hs : Cond.static Lib.Math.min.name ∈ rn_tb) (hi : Cond.initialized "java/lang/Math" ∈ rn_tb) (hc : Cond.code Lib.Math.min.name Lib.Math.min.code 2 (some .int) ∈ rn_tb) (hd : decode M.2.1 pc = .ok (.invokestatic idx, 3)) (hf : 1 ≤ M.2.2.2.2.1) (hr : (st.map fun v => v.category).sum + 13 ≤ M.2.2.2.2.2) (k : Rn Z M (pc + 3) ls (.int (if y < x then y else x) :: st) w ca sa K) : Rn Z M pc ls (.int y :: .int x :: st) w ca sa K := by
  intro p e s m args below meth c H locs cells slots mc ms A ad0 ad ws tys la sta hC hW hL hS hp h1 h2
  obtain ⟨_, _, rfl, rfl, _, us, rfl, rfl, hS⟩ := hS
  have hcat := rn_vs_cats hS
  exact va_mmin hC.1 hC.2.1 (hC.2.2.1.trans hL.1.symm) hC.2.2.2.1 (hC.2.2.2.2.1 _ hl) (hC.2.2.2.2.1 _ hs) (hC.2.2.2.2.1 _ hi) (hC.2.2.2.2.1 _ hc) hf (show (us.map fun v => v.category).sum + 13 ≤ M.2.2.2.2.2 by rw [hcat]; exact hr) (show cells ≤ mc by omega) (show slots ≤ ms by omega) hd (k.go hC hW hL ⟨_, _, rfl, rfl, hS⟩ hp h1 h2)
theorem rn_invV0 {idx n ci ob : Nat} {av : List Value} {fs : List Value} (hc : Call Z N (.ref ob :: av) w 0 0 r w1) (hI : rn_IV M.1.cls idx N n ci) (hf : rn_Fit M N) (hd : decode M.2.1 pc = .ok (.invokevirtual idx, 3)) (ho : w[ob]? = some (rn_o ci fs)) (hn : av.length = n) (hst : av.reverse ++ .ref ob :: st = st0) (hrm : (st.map fun v => v.category).sum ≤ 8) (k : Rn Z M (pc + 3) ls (r.toList ++ st) w1 ca sa K) : Rn Z M pc ls st0 w ca sa K := rn_invV hc hI hf hd ho hn hst hrm k
theorem rn_invS0 {idx n : Nat} {av : List Value} (hc : Call Z N av w 0 0 r w1) (hI : rn_IS M.1.cls idx N n) (hf : rn_Fit M N) (hd : decode M.2.1 pc = .ok (.invokestatic idx, 3)) (hn : av.length = n) (hst : av.reverse ++ st = st0) (hrm : (st.map fun v => v.category).sum ≤ 8) (k : Rn Z M (pc + 3) ls (r.toList ++ st) w1 ca sa K) : Rn Z M pc ls st0 w ca sa K := rn_invS hc hI hf hd hn hst hrm k
end
/-! a world under other numbers: new number j is the old number is[j] -/
def rn_mv (is : List Nat) : Value → Value
  | .ref j => match is[j]? with
    | some i => .ref i
    | none => .retAddr 0
  | v => v
def rn_mr (is : List Nat) : Option Nat → Option (Option Nat)
  | none => some none
  | some j => match is[j]? with
    | some i => some (some i)
    | none => none
def rn_mc (is : List Nat) : rn_C → rn_C
  | .inr (.inr (.inr (.inl (ci, fs)))) => rn_o ci (fs.map (rn_mv is))
  | .inr (.inr (.inl (ty, l))) => rn_q ty (l.map fun x => match x with
    | none => none
    | some j => some (is.getD j 0))
  | c => c
theorem rn_mv_ok {is ad ad' : List Nat} (hg : ∀ (j i a : Nat), is[j]? = some i → ad[i]? = some a → ad'[j]? = some a) {v u : Value} (h : rn_v ad (rn_mv is v) u) : rn_v ad' v u := by
  cases v with
  | ref j =>
    cases hj : is[j]? with
    | none =>
      have e : rn_mv is (.ref j) = .retAddr 0 := by simp [rn_mv, hj]
      rw [e] at h
      exact h.elim
    | some i =>
      have e : rn_mv is (.ref j) = .ref i := by simp [rn_mv, hj]
      rw [e] at h
      obtain ⟨a, h1, h2⟩ := h
      exact ⟨a, hg j i a hj h1, h2⟩
  | _ => exact h
theorem rn_mvs_ok {is ad ad' : List Nat} (hg : ∀ (j i a : Nat), is[j]? = some i → ad[i]? = some a → ad'[j]? = some a) : ∀ {vs us : List Value}, rn_vs ad (vs.map (rn_mv is)) us → rn_vs ad' vs us
  | [], _, h => h
  | _ :: _, _, ⟨u, us', h1, h2, h3⟩ => ⟨u, us', h1, rn_mv_ok hg h2, rn_mvs_ok hg h3⟩
end
section
set_option maxRecDepth 100000 in
theorem cl_Wt : rn_Cl 0 "WeightedTrees" T_Wt 7 ty_Wt := by
  refine ⟨rfl, fun x hx => ?_, by decide +kernel, by decide +kernel⟩
  obtain ⟨k, hk, rfl⟩ := List.mem_map.mp hx
  have hk := List.mem_range.mp hk
  rcases k with _ | k
  · exact (rn_in 194 rfl rfl)
  rcases k with _ | k
  · exact (rn_in 196 rfl rfl)
  rcases k with _ | k
  · exact (rn_in 198 rfl rfl)
  rcases k with _ | k
  · exact (rn_in 200 rfl rfl)
  rcases k with _ | k
  · exact (rn_in 202 rfl rfl)
  rcases k with _ | k
  · exact (rn_in 204 rfl rfl)
  rcases k with _ | k
  · exact (rn_in 206 rfl rfl)
  omega
set_option maxRecDepth 100000 in
theorem cl_Dr : rn_Cl 1 "WeightedTrees$Draft" T_Dr 2 ty_Dr := by
  refine ⟨rfl, fun x hx => ?_, by decide +kernel, by decide +kernel⟩
  obtain ⟨k, hk, rfl⟩ := List.mem_map.mp hx
  have hk := List.mem_range.mp hk
  rcases k with _ | k
  · exact (rn_in 36 rfl rfl)
  rcases k with _ | k
  · exact (rn_in 38 rfl rfl)
  omega
set_option maxRecDepth 100000 in
theorem cl_Ch : rn_Cl 2 "WeightedTrees$Chart" T_Ch 10 ty_Ch := by
  refine ⟨rfl, fun x hx => ?_, by decide +kernel, by decide +kernel⟩
  obtain ⟨k, hk, rfl⟩ := List.mem_map.mp hx
  have hk := List.mem_range.mp hk
  rcases k with _ | k
  · exact (rn_in 67 rfl rfl)
  rcases k with _ | k
  · exact (rn_in 69 rfl rfl)
  rcases k with _ | k
  · exact (rn_in 71 rfl rfl)
  rcases k with _ | k
  · exact (rn_in 73 rfl rfl)
  rcases k with _ | k
  · exact (rn_in 75 rfl rfl)
  rcases k with _ | k
  · exact (rn_in 77 rfl rfl)
  rcases k with _ | k
  · exact (rn_in 79 rfl rfl)
  rcases k with _ | k
  · exact (rn_in 81 rfl rfl)
  rcases k with _ | k
  · exact (rn_in 83 rfl rfl)
  rcases k with _ | k
  · exact (rn_in 85 rfl rfl)
  omega
set_option maxRecDepth 100000 in
theorem cl_Ut : rn_Cl 3 "WeightedTrees$UnitTable" T_Ut 1 ty_Ut := by
  refine ⟨rfl, fun x hx => ?_, by decide +kernel, by decide +kernel⟩
  obtain ⟨k, hk, rfl⟩ := List.mem_map.mp hx
  have hk := List.mem_range.mp hk
  rcases k with _ | k
  · exact (rn_in 97 rfl rfl)
  omega
set_option maxRecDepth 100000 in
theorem cl_Tl : rn_Cl 4 "WeightedTrees$TreeListing" T_Tl 5 ty_Tl := by
  refine ⟨rfl, fun x hx => ?_, by decide +kernel, by decide +kernel⟩
  obtain ⟨k, hk, rfl⟩ := List.mem_map.mp hx
  have hk := List.mem_range.mp hk
  rcases k with _ | k
  · exact (rn_in 115 rfl rfl)
  rcases k with _ | k
  · exact (rn_in 117 rfl rfl)
  rcases k with _ | k
  · exact (rn_in 119 rfl rfl)
  rcases k with _ | k
  · exact (rn_in 121 rfl rfl)
  rcases k with _ | k
  · exact (rn_in 123 rfl rfl)
  omega
set_option maxRecDepth 100000 in
theorem cl_Gr : rn_Cl 5 "WeightedTrees$Grammar" T_Gr 10 ty_Gr := by
  refine ⟨rfl, fun x hx => ?_, by decide +kernel, by decide +kernel⟩
  obtain ⟨k, hk, rfl⟩ := List.mem_map.mp hx
  have hk := List.mem_range.mp hk
  rcases k with _ | k
  · exact (rn_in 166 rfl rfl)
  rcases k with _ | k
  · exact (rn_in 168 rfl rfl)
  rcases k with _ | k
  · exact (rn_in 170 rfl rfl)
  rcases k with _ | k
  · exact (rn_in 172 rfl rfl)
  rcases k with _ | k
  · exact (rn_in 174 rfl rfl)
  rcases k with _ | k
  · exact (rn_in 176 rfl rfl)
  rcases k with _ | k
  · exact (rn_in 178 rfl rfl)
  rcases k with _ | k
  · exact (rn_in 180 rfl rfl)
  rcases k with _ | k
  · exact (rn_in 182 rfl rfl)
  rcases k with _ | k
  · exact (rn_in 184 rfl rfl)
  omega
set_option maxRecDepth 100000 in
theorem cl_Rd : rn_Cl 6 "WeightedTrees$GrammarReader" T_Rd 4 ty_Rd := by
  refine ⟨rfl, fun x hx => ?_, by decide +kernel, by decide +kernel⟩
  obtain ⟨k, hk, rfl⟩ := List.mem_map.mp hx
  have hk := List.mem_range.mp hk
  rcases k with _ | k
  · exact (rn_in 263 rfl rfl)
  rcases k with _ | k
  · exact (rn_in 265 rfl rfl)
  rcases k with _ | k
  · exact (rn_in 267 rfl rfl)
  rcases k with _ | k
  · exact (rn_in 269 rfl rfl)
  omega
set_option maxRecDepth 100000 in
theorem cl_Md : rn_Cl 7 "WeightedTreesModel" T_Md 35 ty_Md := by
  refine ⟨rfl, fun x hx => ?_, by decide +kernel, by decide +kernel⟩
  obtain ⟨k, hk, rfl⟩ := List.mem_map.mp hx
  have hk := List.mem_range.mp hk
  rcases k with _ | k
  · exact (rn_in 711 rfl rfl)
  rcases k with _ | k
  · exact (rn_in 713 rfl rfl)
  rcases k with _ | k
  · exact (rn_in 715 rfl rfl)
  rcases k with _ | k
  · exact (rn_in 717 rfl rfl)
  rcases k with _ | k
  · exact (rn_in 719 rfl rfl)
  rcases k with _ | k
  · exact (rn_in 721 rfl rfl)
  rcases k with _ | k
  · exact (rn_in 723 rfl rfl)
  rcases k with _ | k
  · exact (rn_in 725 rfl rfl)
  rcases k with _ | k
  · exact (rn_in 727 rfl rfl)
  rcases k with _ | k
  · exact (rn_in 729 rfl rfl)
  rcases k with _ | k
  · exact (rn_in 731 rfl rfl)
  rcases k with _ | k
  · exact (rn_in 733 rfl rfl)
  rcases k with _ | k
  · exact (rn_in 735 rfl rfl)
  rcases k with _ | k
  · exact (rn_in 737 rfl rfl)
  rcases k with _ | k
  · exact (rn_in 739 rfl rfl)
  rcases k with _ | k
  · exact (rn_in 741 rfl rfl)
  rcases k with _ | k
  · exact (rn_in 743 rfl rfl)
  rcases k with _ | k
  · exact (rn_in 745 rfl rfl)
  rcases k with _ | k
  · exact (rn_in 747 rfl rfl)
  rcases k with _ | k
  · exact (rn_in 749 rfl rfl)
  rcases k with _ | k
  · exact (rn_in 751 rfl rfl)
  rcases k with _ | k
  · exact (rn_in 753 rfl rfl)
  rcases k with _ | k
  · exact (rn_in 755 rfl rfl)
  rcases k with _ | k
  · exact (rn_in 757 rfl rfl)
  rcases k with _ | k
  · exact (rn_in 759 rfl rfl)
  rcases k with _ | k
  · exact (rn_in 761 rfl rfl)
  rcases k with _ | k
  · exact (rn_in 763 rfl rfl)
  rcases k with _ | k
  · exact (rn_in 765 rfl rfl)
  rcases k with _ | k
  · exact (rn_in 767 rfl rfl)
  rcases k with _ | k
  · exact (rn_in 769 rfl rfl)
  rcases k with _ | k
  · exact (rn_in 771 rfl rfl)
  rcases k with _ | k
  · exact (rn_in 773 rfl rfl)
  rcases k with _ | k
  · exact (rn_in 775 rfl rfl)
  rcases k with _ | k
  · exact (rn_in 777 rfl rfl)
  rcases k with _ | k
  · exact (rn_in 779 rfl rfl)
  omega
set_option maxRecDepth 100000 in
theorem fd_Wt_10 : rn_Fd "WeightedTrees" 10 0 0 true (.object "WeightedTrees$Draft") := ⟨_, _, _, _, cl_Wt, by decide, Or.inl (rn_in 187 rfl rfl), rfl, rfl⟩
set_option maxRecDepth 100000 in
theorem ff_Wt_10 : rn_Ff "WeightedTrees" 10 0 0 (.object "WeightedTrees$Draft") := ⟨_, _, _, _, cl_Wt, by decide, (rn_in 187 rfl rfl), rfl, rfl, rfl⟩
set_option maxRecDepth 100000 in
theorem fd_Wt_19 : rn_Fd "WeightedTrees" 19 0 1 true (.object "WeightedTrees$Chart") := ⟨_, _, _, _, cl_Wt, by decide, Or.inl (rn_in 188 rfl rfl), rfl, rfl⟩
set_option maxRecDepth 100000 in
theorem ff_Wt_19 : rn_Ff "WeightedTrees" 19 0 1 (.object "WeightedTrees$Chart") := ⟨_, _, _, _, cl_Wt, by decide, (rn_in 188 rfl rfl), rfl, rfl, rfl⟩
set_option maxRecDepth 100000 in
theorem fd_Wt_26 : rn_Fd "WeightedTrees" 26 0 2 true (.object "WeightedTrees$UnitTable") := ⟨_, _, _, _, cl_Wt, by decide, Or.inl (rn_in 189 rfl rfl), rfl, rfl⟩
set_option maxRecDepth 100000 in
theorem ff_Wt_26 : rn_Ff "WeightedTrees" 26 0 2 (.object "WeightedTrees$UnitTable") := ⟨_, _, _, _, cl_Wt, by decide, (rn_in 189 rfl rfl), rfl, rfl, rfl⟩
set_option maxRecDepth 100000 in
theorem fd_Wt_33 : rn_Fd "WeightedTrees" 33 0 3 true (.object "WeightedTrees$TreeListing") := ⟨_, _, _, _, cl_Wt, by decide, Or.inl (rn_in 190 rfl rfl), rfl, rfl⟩
set_option maxRecDepth 100000 in
theorem ff_Wt_33 : rn_Ff "WeightedTrees" 33 0 3 (.object "WeightedTrees$TreeListing") := ⟨_, _, _, _, cl_Wt, by decide, (rn_in 190 rfl rfl), rfl, rfl, rfl⟩
set_option maxRecDepth 100000 in
theorem fd_Wt_40 : rn_Fd "WeightedTrees" 40 0 4 false (.object "WeightedTrees$Grammar") := ⟨_, _, _, _, cl_Wt, by decide, Or.inl (rn_in 191 rfl rfl), rfl, rfl⟩
set_option maxRecDepth 100000 in
theorem fd_Wt_44 : rn_Fd "WeightedTrees" 44 0 5 false (.object "WeightedTrees$Grammar") := ⟨_, _, _, _, cl_Wt, by decide, Or.inl (rn_in 192 rfl rfl), rfl, rfl⟩
set_option maxRecDepth 100000 in
theorem fd_Wt_47 : rn_Fd "WeightedTrees" 47 0 6 false .int := ⟨_, _, _, _, cl_Wt, by decide, Or.inl (rn_in 193 rfl rfl), rfl, rfl⟩
set_option maxRecDepth 100000 in
theorem fd_Ch_11 : rn_Fd "WeightedTrees$Chart" 11 2 0 true (.array .long) := ⟨_, _, _, _, cl_Ch, by decide, Or.inl (rn_in 52 rfl rfl), rfl, rfl⟩
set_option maxRecDepth 100000 in
theorem ff_Ch_11 : rn_Ff "WeightedTrees$Chart" 11 2 0 (.array .long) := ⟨_, _, _, _, cl_Ch, by decide, (rn_in 52 rfl rfl), rfl, rfl, rfl⟩
set_option maxRecDepth 100000 in
theorem fd_Ch_15 : rn_Fd "WeightedTrees$Chart" 15 2 1 true (.array .int) := ⟨_, _, _, _, cl_Ch, by decide, Or.inl (rn_in 54 rfl rfl), rfl, rfl⟩
set_option maxRecDepth 100000 in
theorem ff_Ch_15 : rn_Ff "WeightedTrees$Chart" 15 2 1 (.array .int) := ⟨_, _, _, _, cl_Ch, by decide, (rn_in 54 rfl rfl), rfl, rfl, rfl⟩
set_option maxRecDepth 100000 in
theorem fd_Ch_19 : rn_Fd "WeightedTrees$Chart" 19 2 2 true (.array .int) := ⟨_, _, _, _, cl_Ch, by decide, Or.inl (rn_in 56 rfl rfl), rfl, rfl⟩
set_option maxRecDepth 100000 in
theorem ff_Ch_19 : rn_Ff "WeightedTrees$Chart" 19 2 2 (.array .int) := ⟨_, _, _, _, cl_Ch, by decide, (rn_in 56 rfl rfl), rfl, rfl, rfl⟩
set_option maxRecDepth 100000 in
theorem fd_Ch_22 : rn_Fd "WeightedTrees$Chart" 22 2 3 true (.array .int) := ⟨_, _, _, _, cl_Ch, by decide, Or.inl (rn_in 58 rfl rfl), rfl, rfl⟩
set_option maxRecDepth 100000 in
theorem ff_Ch_22 : rn_Ff "WeightedTrees$Chart" 22 2 3 (.array .int) := ⟨_, _, _, _, cl_Ch, by decide, (rn_in 58 rfl rfl), rfl, rfl, rfl⟩
set_option maxRecDepth 100000 in
theorem fd_Ch_25 : rn_Fd "WeightedTrees$Chart" 25 2 4 true (.array .int) := ⟨_, _, _, _, cl_Ch, by decide, Or.inl (rn_in 60 rfl rfl), rfl, rfl⟩
set_option maxRecDepth 100000 in
theorem ff_Ch_25 : rn_Ff "WeightedTrees$Chart" 25 2 4 (.array .int) := ⟨_, _, _, _, cl_Ch, by decide, (rn_in 60 rfl rfl), rfl, rfl, rfl⟩
set_option maxRecDepth 100000 in
theorem fd_Ch_28 : rn_Fd "WeightedTrees$Chart" 28 2 5 true (.array .char) := ⟨_, _, _, _, cl_Ch, by decide, Or.inl (rn_in 61 rfl rfl), rfl, rfl⟩
set_option maxRecDepth 100000 in
theorem ff_Ch_28 : rn_Ff "WeightedTrees$Chart" 28 2 5 (.array .char) := ⟨_, _, _, _, cl_Ch, by decide, (rn_in 61 rfl rfl), rfl, rfl, rfl⟩
set_option maxRecDepth 100000 in
theorem fd_Ch_32 : rn_Fd "WeightedTrees$Chart" 32 2 6 false .int := ⟨_, _, _, _, cl_Ch, by decide, Or.inl (rn_in 62 rfl rfl), rfl, rfl⟩
set_option maxRecDepth 100000 in
theorem fd_Ch_38 : rn_Fd "WeightedTrees$Chart" 38 2 7 true (.array (.array .long)) := ⟨_, _, _, _, cl_Ch, by decide, Or.inl (rn_in 64 rfl rfl), rfl, rfl⟩
set_option maxRecDepth 100000 in
theorem ff_Ch_38 : rn_Ff "WeightedTrees$Chart" 38 2 7 (.array (.array .long)) := ⟨_, _, _, _, cl_Ch, by decide, (rn_in 64 rfl rfl), rfl, rfl, rfl⟩
set_option maxRecDepth 100000 in
theorem fd_Ch_43 : rn_Fd "WeightedTrees$Chart" 43 2 8 true (.array (.array .int)) := ⟨_, _, _, _, cl_Ch, by decide, Or.inl (rn_in 65 rfl rfl), rfl, rfl⟩
set_option maxRecDepth 100000 in
theorem ff_Ch_43 : rn_Ff "WeightedTrees$Chart" 43 2 8 (.array (.array .int)) := ⟨_, _, _, _, cl_Ch, by decide, (rn_in 65 rfl rfl), rfl, rfl, rfl⟩
set_option maxRecDepth 100000 in
theorem fd_Ch_46 : rn_Fd "WeightedTrees$Chart" 46 2 9 true (.array (.array .int)) := ⟨_, _, _, _, cl_Ch, by decide, Or.inl (rn_in 66 rfl rfl), rfl, rfl⟩
set_option maxRecDepth 100000 in
theorem ff_Ch_46 : rn_Ff "WeightedTrees$Chart" 46 2 9 (.array (.array .int)) := ⟨_, _, _, _, cl_Ch, by decide, (rn_in 66 rfl rfl), rfl, rfl, rfl⟩
set_option maxRecDepth 100000 in
theorem fd_Ch_53 : rn_Fd "WeightedTrees$Chart" 53 1 1 false .int := ⟨_, _, _, _, cl_Dr, by decide, Or.inl (rn_in 35 rfl rfl), rfl, rfl⟩
set_option maxRecDepth 100000 in
theorem fd_Ch_58 : rn_Fd "WeightedTrees$Chart" 58 1 0 true (.array .char) := ⟨_, _, _, _, cl_Dr, by decide, Or.inl (rn_in 32 rfl rfl), rfl, rfl⟩
set_option maxRecDepth 100000 in
theorem fd_Ch_65 : rn_Fd "WeightedTrees$Chart" 65 5 8 false .int := ⟨_, _, _, _, cl_Gr, by decide, Or.inl (rn_in 164 rfl rfl), rfl, rfl⟩
set_option maxRecDepth 100000 in
theorem fd_Ch_70 : rn_Fd "WeightedTrees$Chart" 70 5 7 false .int := ⟨_, _, _, _, cl_Gr, by decide, Or.inl (rn_in 160 rfl rfl), rfl, rfl⟩
set_option maxRecDepth 100000 in
theorem fd_Ch_73 : rn_Fd "WeightedTrees$Chart" 73 5 0 true (.array .int) := ⟨_, _, _, _, cl_Gr, by decide, Or.inl (rn_in 135 rfl rfl), rfl, rfl⟩
set_option maxRecDepth 100000 in
theorem fd_Ch_76 : rn_Fd "WeightedTrees$Chart" 76 5 6 true (.array .int) := ⟨_, _, _, _, cl_Gr, by decide, Or.inl (rn_in 155 rfl rfl), rfl, rfl⟩
set_option maxRecDepth 100000 in
theorem fd_Ch_86 : rn_Fd "WeightedTrees$Chart" 86 5 3 true (.array .long) := ⟨_, _, _, _, cl_Gr, by decide, Or.inl (rn_in 147 rfl rfl), rfl, rfl⟩
set_option maxRecDepth 100000 in
theorem fd_Ch_89 : rn_Fd "WeightedTrees$Chart" 89 5 4 true (.array .int) := ⟨_, _, _, _, cl_Gr, by decide, Or.inl (rn_in 150 rfl rfl), rfl, rfl⟩
set_option maxRecDepth 100000 in
theorem fd_Ch_93 : rn_Fd "WeightedTrees$Chart" 93 5 2 true (.array .int) := ⟨_, _, _, _, cl_Gr, by decide, Or.inl (rn_in 142 rfl rfl), rfl, rfl⟩
set_option maxRecDepth 100000 in
theorem fd_Dr_9 : rn_Fd "WeightedTrees$Draft" 9 1 0 true (.array .char) := ⟨_, _, _, _, cl_Dr, by decide, Or.inl (rn_in 31 rfl rfl), rfl, rfl⟩
set_option maxRecDepth 100000 in
theorem ff_Dr_9 : rn_Ff "WeightedTrees$Draft" 9 1 0 (.array .char) := ⟨_, _, _, _, cl_Dr, by decide, (rn_in 31 rfl rfl), rfl, rfl, rfl⟩
set_option maxRecDepth 100000 in
theorem fd_Dr_15 : rn_Fd "WeightedTrees$Draft" 15 1 1 false .int := ⟨_, _, _, _, cl_Dr, by decide, Or.inl (rn_in 34 rfl rfl), rfl, rfl⟩
set_option maxRecDepth 100000 in
theorem fd_Gr_9 : rn_Fd "WeightedTrees$Grammar" 9 5 0 true (.array .int) := ⟨_, _, _, _, cl_Gr, by decide, Or.inl (rn_in 132 rfl rfl), rfl, rfl⟩
set_option maxRecDepth 100000 in
theorem ff_Gr_9 : rn_Ff "WeightedTrees$Grammar" 9 5 0 (.array .int) := ⟨_, _, _, _, cl_Gr, by decide, (rn_in 132 rfl rfl), rfl, rfl, rfl⟩
set_option maxRecDepth 100000 in
theorem fd_Gr_15 : rn_Fd "WeightedTrees$Grammar" 15 5 1 true (.array .int) := ⟨_, _, _, _, cl_Gr, by decide, Or.inl (rn_in 136 rfl rfl), rfl, rfl⟩
set_option maxRecDepth 100000 in
theorem ff_Gr_15 : rn_Ff "WeightedTrees$Grammar" 15 5 1 (.array .int) := ⟨_, _, _, _, cl_Gr, by decide, (rn_in 136 rfl rfl), rfl, rfl, rfl⟩
set_option maxRecDepth 100000 in
theorem fd_Gr_18 : rn_Fd "WeightedTrees$Grammar" 18 5 2 true (.array .int) := ⟨_, _, _, _, cl_Gr, by decide, Or.inl (rn_in 138 rfl rfl), rfl, rfl⟩
set_option maxRecDepth 100000 in
theorem ff_Gr_18 : rn_Ff "WeightedTrees$Grammar" 18 5 2 (.array .int) := ⟨_, _, _, _, cl_Gr, by decide, (rn_in 138 rfl rfl), rfl, rfl, rfl⟩
set_option maxRecDepth 100000 in
theorem fd_Gr_21 : rn_Fd "WeightedTrees$Grammar" 21 5 3 true (.array .long) := ⟨_, _, _, _, cl_Gr, by decide, Or.inl (rn_in 143 rfl rfl), rfl, rfl⟩
set_option maxRecDepth 100000 in
theorem ff_Gr_21 : rn_Ff "WeightedTrees$Grammar" 21 5 3 (.array .long) := ⟨_, _, _, _, cl_Gr, by decide, (rn_in 143 rfl rfl), rfl, rfl, rfl⟩
set_option maxRecDepth 100000 in
theorem fd_Gr_25 : rn_Fd "WeightedTrees$Grammar" 25 5 4 true (.array .int) := ⟨_, _, _, _, cl_Gr, by decide, Or.inl (rn_in 148 rfl rfl), rfl, rfl⟩
set_option maxRecDepth 100000 in
theorem ff_Gr_25 : rn_Ff "WeightedTrees$Grammar" 25 5 4 (.array .int) := ⟨_, _, _, _, cl_Gr, by decide, (rn_in 148 rfl rfl), rfl, rfl, rfl⟩
set_option maxRecDepth 100000 in
theorem fd_Gr_28 : rn_Fd "WeightedTrees$Grammar" 28 5 5 true (.array .int) := ⟨_, _, _, _, cl_Gr, by decide, Or.inl (rn_in 151 rfl rfl), rfl, rfl⟩
set_option maxRecDepth 100000 in
theorem ff_Gr_28 : rn_Ff "WeightedTrees$Grammar" 28 5 5 (.array .int) := ⟨_, _, _, _, cl_Gr, by decide, (rn_in 151 rfl rfl), rfl, rfl, rfl⟩
set_option maxRecDepth 100000 in
theorem fd_Gr_31 : rn_Fd "WeightedTrees$Grammar" 31 5 6 true (.array .int) := ⟨_, _, _, _, cl_Gr, by decide, Or.inl (rn_in 153 rfl rfl), rfl, rfl⟩
set_option maxRecDepth 100000 in
theorem ff_Gr_31 : rn_Ff "WeightedTrees$Grammar" 31 5 6 (.array .int) := ⟨_, _, _, _, cl_Gr, by decide, (rn_in 153 rfl rfl), rfl, rfl, rfl⟩
set_option maxRecDepth 100000 in
theorem fd_Gr_34 : rn_Fd "WeightedTrees$Grammar" 34 5 7 false .int := ⟨_, _, _, _, cl_Gr, by decide, Or.inl (rn_in 156 rfl rfl), rfl, rfl⟩
set_option maxRecDepth 100000 in
theorem fd_Gr_38 : rn_Fd "WeightedTrees$Grammar" 38 5 8 false .int := ⟨_, _, _, _, cl_Gr, by decide, Or.inl (rn_in 161 rfl rfl), rfl, rfl⟩
set_option maxRecDepth 100000 in
theorem fd_Gr_41 : rn_Fd "WeightedTrees$Grammar" 41 5 9 true (.array .int) := ⟨_, _, _, _, cl_Gr, by decide, Or.inl (rn_in 165 rfl rfl), rfl, rfl⟩
set_option maxRecDepth 100000 in
theorem ff_Gr_41 : rn_Ff "WeightedTrees$Grammar" 41 5 9 (.array .int) := ⟨_, _, _, _, cl_Gr, by decide, (rn_in 165 rfl rfl), rfl, rfl, rfl⟩
set_option maxRecDepth 100000 in
theorem fd_Rd_9 : rn_Fd "WeightedTrees$GrammarReader" 9 6 0 true (.object "WeightedTrees$Draft") := ⟨_, _, _, _, cl_Rd, by decide, Or.inl (rn_in 259 rfl rfl), rfl, rfl⟩
set_option maxRecDepth 100000 in
theorem fd_Rd_15 : rn_Fd "WeightedTrees$GrammarReader" 15 6 1 true (.object "WeightedTrees$Grammar") := ⟨_, _, _, _, cl_Rd, by decide, Or.inl (rn_in 260 rfl rfl), rfl, rfl⟩
set_option maxRecDepth 100000 in
theorem fd_Rd_19 : rn_Fd "WeightedTrees$GrammarReader" 19 6 2 false .int := ⟨_, _, _, _, cl_Rd, by decide, Or.inl (rn_in 261 rfl rfl), rfl, rfl⟩
set_option maxRecDepth 100000 in
theorem fd_Rd_23 : rn_Fd "WeightedTrees$GrammarReader" 23 6 3 false .int := ⟨_, _, _, _, cl_Rd, by decide, Or.inl (rn_in 262 rfl rfl), rfl, rfl⟩
set_option maxRecDepth 100000 in
theorem fd_Rd_48 : rn_Fd "WeightedTrees$GrammarReader" 48 5 7 false .int := ⟨_, _, _, _, cl_Gr, by decide, Or.inl (rn_in 157 rfl rfl), rfl, rfl⟩
set_option maxRecDepth 100000 in
theorem fd_Rd_77 : rn_Fd "WeightedTrees$GrammarReader" 77 5 0 true (.array .int) := ⟨_, _, _, _, cl_Gr, by decide, Or.inl (rn_in 134 rfl rfl), rfl, rfl⟩
set_option maxRecDepth 100000 in
theorem fd_Rd_87 : rn_Fd "WeightedTrees$GrammarReader" 87 5 1 true (.array .int) := ⟨_, _, _, _, cl_Gr, by decide, Or.inl (rn_in 137 rfl rfl), rfl, rfl⟩
set_option maxRecDepth 100000 in
theorem fd_Rd_90 : rn_Fd "WeightedTrees$GrammarReader" 90 5 2 true (.array .int) := ⟨_, _, _, _, cl_Gr, by decide, Or.inl (rn_in 141 rfl rfl), rfl, rfl⟩
set_option maxRecDepth 100000 in
theorem fd_Rd_99 : rn_Fd "WeightedTrees$GrammarReader" 99 5 3 true (.array .long) := ⟨_, _, _, _, cl_Gr, by decide, Or.inl (rn_in 145 rfl rfl), rfl, rfl⟩
set_option maxRecDepth 100000 in
theorem fd_Rd_107 : rn_Fd "WeightedTrees$GrammarReader" 107 5 4 true (.array .int) := ⟨_, _, _, _, cl_Gr, by decide, Or.inl (rn_in 149 rfl rfl), rfl, rfl⟩
set_option maxRecDepth 100000 in
theorem fd_Rd_112 : rn_Fd "WeightedTrees$GrammarReader" 112 1 0 true (.array .char) := ⟨_, _, _, _, cl_Dr, by decide, Or.inl (rn_in 33 rfl rfl), rfl, rfl⟩
set_option maxRecDepth 100000 in
theorem fd_Tl_9 : rn_Fd "WeightedTrees$TreeListing" 9 4 0 true (.array .int) := ⟨_, _, _, _, cl_Tl, by decide, Or.inl (rn_in 106 rfl rfl), rfl, rfl⟩
set_option maxRecDepth 100000 in
theorem ff_Tl_9 : rn_Ff "WeightedTrees$TreeListing" 9 4 0 (.array .int) := ⟨_, _, _, _, cl_Tl, by decide, (rn_in 106 rfl rfl), rfl, rfl, rfl⟩
set_option maxRecDepth 100000 in
theorem fd_Tl_15 : rn_Fd "WeightedTrees$TreeListing" 15 4 1 true (.array .int) := ⟨_, _, _, _, cl_Tl, by decide, Or.inl (rn_in 108 rfl rfl), rfl, rfl⟩
set_option maxRecDepth 100000 in
theorem ff_Tl_15 : rn_Ff "WeightedTrees$TreeListing" 15 4 1 (.array .int) := ⟨_, _, _, _, cl_Tl, by decide, (rn_in 108 rfl rfl), rfl, rfl, rfl⟩
set_option maxRecDepth 100000 in
theorem fd_Tl_18 : rn_Fd "WeightedTrees$TreeListing" 18 4 2 true (.array .int) := ⟨_, _, _, _, cl_Tl, by decide, Or.inl (rn_in 110 rfl rfl), rfl, rfl⟩
set_option maxRecDepth 100000 in
theorem ff_Tl_18 : rn_Ff "WeightedTrees$TreeListing" 18 4 2 (.array .int) := ⟨_, _, _, _, cl_Tl, by decide, (rn_in 110 rfl rfl), rfl, rfl, rfl⟩
set_option maxRecDepth 100000 in
theorem fd_Tl_21 : rn_Fd "WeightedTrees$TreeListing" 21 4 3 true (.array .int) := ⟨_, _, _, _, cl_Tl, by decide, Or.inl (rn_in 112 rfl rfl), rfl, rfl⟩
set_option maxRecDepth 100000 in
theorem ff_Tl_21 : rn_Ff "WeightedTrees$TreeListing" 21 4 3 (.array .int) := ⟨_, _, _, _, cl_Tl, by decide, (rn_in 112 rfl rfl), rfl, rfl, rfl⟩
set_option maxRecDepth 100000 in
theorem fd_Tl_24 : rn_Fd "WeightedTrees$TreeListing" 24 4 4 false .int := ⟨_, _, _, _, cl_Tl, by decide, Or.inl (rn_in 113 rfl rfl), rfl, rfl⟩
set_option maxRecDepth 100000 in
theorem fd_Tl_34 : rn_Fd "WeightedTrees$TreeListing" 34 2 3 true (.array .int) := ⟨_, _, _, _, cl_Ch, by decide, Or.inl (rn_in 59 rfl rfl), rfl, rfl⟩
set_option maxRecDepth 100000 in
theorem fd_Tl_55 : rn_Fd "WeightedTrees$TreeListing" 55 2 2 true (.array .int) := ⟨_, _, _, _, cl_Ch, by decide, Or.inl (rn_in 57 rfl rfl), rfl, rfl⟩
set_option maxRecDepth 100000 in
theorem fd_Tl_56 : rn_Fd "WeightedTrees$TreeListing" 56 5 2 true (.array .int) := ⟨_, _, _, _, cl_Gr, by decide, Or.inl (rn_in 140 rfl rfl), rfl, rfl⟩
set_option maxRecDepth 100000 in
theorem fd_Ut_9 : rn_Fd "WeightedTrees$UnitTable" 9 3 0 true (.array .long) := ⟨_, _, _, _, cl_Ut, by decide, Or.inl (rn_in 96 rfl rfl), rfl, rfl⟩
set_option maxRecDepth 100000 in
theorem ff_Ut_9 : rn_Ff "WeightedTrees$UnitTable" 9 3 0 (.array .long) := ⟨_, _, _, _, cl_Ut, by decide, (rn_in 96 rfl rfl), rfl, rfl, rfl⟩
set_option maxRecDepth 100000 in
theorem fd_Ut_15 : rn_Fd "WeightedTrees$UnitTable" 15 5 8 false .int := ⟨_, _, _, _, cl_Gr, by decide, Or.inl (rn_in 162 rfl rfl), rfl, rfl⟩
set_option maxRecDepth 100000 in
theorem fd_Ut_21 : rn_Fd "WeightedTrees$UnitTable" 21 5 6 true (.array .int) := ⟨_, _, _, _, cl_Gr, by decide, Or.inl (rn_in 154 rfl rfl), rfl, rfl⟩
set_option maxRecDepth 100000 in
theorem fd_Ut_25 : rn_Fd "WeightedTrees$UnitTable" 25 5 7 false .int := ⟨_, _, _, _, cl_Gr, by decide, Or.inl (rn_in 158 rfl rfl), rfl, rfl⟩
set_option maxRecDepth 100000 in
theorem fd_Ut_28 : rn_Fd "WeightedTrees$UnitTable" 28 5 0 true (.array .int) := ⟨_, _, _, _, cl_Gr, by decide, Or.inl (rn_in 133 rfl rfl), rfl, rfl⟩
set_option maxRecDepth 100000 in
theorem fd_Ut_35 : rn_Fd "WeightedTrees$UnitTable" 35 5 2 true (.array .int) := ⟨_, _, _, _, cl_Gr, by decide, Or.inl (rn_in 139 rfl rfl), rfl, rfl⟩
set_option maxRecDepth 100000 in
theorem fd_Ut_46 : rn_Fd "WeightedTrees$UnitTable" 46 5 3 true (.array .long) := ⟨_, _, _, _, cl_Gr, by decide, Or.inl (rn_in 144 rfl rfl), rfl, rfl⟩
set_option maxRecDepth 100000 in
theorem fd_Md_7 : rn_Fd "WeightedTreesModel" 7 7 1 true (.array .int) := ⟨_, _, _, _, cl_Md, by decide, Or.inl (rn_in 677 rfl rfl), rfl, rfl⟩
set_option maxRecDepth 100000 in
theorem ff_Md_7 : rn_Ff "WeightedTreesModel" 7 7 1 (.array .int) := ⟨_, _, _, _, cl_Md, by decide, (rn_in 677 rfl rfl), rfl, rfl, rfl⟩
set_option maxRecDepth 100000 in
theorem fd_Md_13 : rn_Fd "WeightedTreesModel" 13 7 3 true (.array .int) := ⟨_, _, _, _, cl_Md, by decide, Or.inl (rn_in 679 rfl rfl), rfl, rfl⟩
set_option maxRecDepth 100000 in
theorem ff_Md_13 : rn_Ff "WeightedTreesModel" 13 7 3 (.array .int) := ⟨_, _, _, _, cl_Md, by decide, (rn_in 679 rfl rfl), rfl, rfl, rfl⟩
set_option maxRecDepth 100000 in
theorem fd_Md_16 : rn_Fd "WeightedTreesModel" 16 7 4 true (.array .int) := ⟨_, _, _, _, cl_Md, by decide, Or.inl (rn_in 680 rfl rfl), rfl, rfl⟩
set_option maxRecDepth 100000 in
theorem ff_Md_16 : rn_Ff "WeightedTreesModel" 16 7 4 (.array .int) := ⟨_, _, _, _, cl_Md, by decide, (rn_in 680 rfl rfl), rfl, rfl, rfl⟩
set_option maxRecDepth 100000 in
theorem fd_Md_19 : rn_Fd "WeightedTreesModel" 19 7 9 true (.array .int) := ⟨_, _, _, _, cl_Md, by decide, Or.inl (rn_in 685 rfl rfl), rfl, rfl⟩
set_option maxRecDepth 100000 in
theorem ff_Md_19 : rn_Ff "WeightedTreesModel" 19 7 9 (.array .int) := ⟨_, _, _, _, cl_Md, by decide, (rn_in 685 rfl rfl), rfl, rfl, rfl⟩
set_option maxRecDepth 100000 in
theorem fd_Md_22 : rn_Fd "WeightedTreesModel" 22 7 10 true (.array .int) := ⟨_, _, _, _, cl_Md, by decide, Or.inl (rn_in 686 rfl rfl), rfl, rfl⟩
set_option maxRecDepth 100000 in
theorem ff_Md_22 : rn_Ff "WeightedTreesModel" 22 7 10 (.array .int) := ⟨_, _, _, _, cl_Md, by decide, (rn_in 686 rfl rfl), rfl, rfl, rfl⟩
set_option maxRecDepth 100000 in
theorem fd_Md_25 : rn_Fd "WeightedTreesModel" 25 7 11 true (.array .int) := ⟨_, _, _, _, cl_Md, by decide, Or.inl (rn_in 687 rfl rfl), rfl, rfl⟩
set_option maxRecDepth 100000 in
theorem ff_Md_25 : rn_Ff "WeightedTreesModel" 25 7 11 (.array .int) := ⟨_, _, _, _, cl_Md, by decide, (rn_in 687 rfl rfl), rfl, rfl, rfl⟩
set_option maxRecDepth 100000 in
theorem fd_Md_28 : rn_Fd "WeightedTreesModel" 28 7 12 true (.array .long) := ⟨_, _, _, _, cl_Md, by decide, Or.inl (rn_in 688 rfl rfl), rfl, rfl⟩
set_option maxRecDepth 100000 in
theorem ff_Md_28 : rn_Ff "WeightedTreesModel" 28 7 12 (.array .long) := ⟨_, _, _, _, cl_Md, by decide, (rn_in 688 rfl rfl), rfl, rfl, rfl⟩
set_option maxRecDepth 100000 in
theorem fd_Md_32 : rn_Fd "WeightedTreesModel" 32 7 13 true (.array .int) := ⟨_, _, _, _, cl_Md, by decide, Or.inl (rn_in 689 rfl rfl), rfl, rfl⟩
set_option maxRecDepth 100000 in
theorem ff_Md_32 : rn_Ff "WeightedTreesModel" 32 7 13 (.array .int) := ⟨_, _, _, _, cl_Md, by decide, (rn_in 689 rfl rfl), rfl, rfl, rfl⟩
set_option maxRecDepth 100000 in
theorem fd_Md_35 : rn_Fd "WeightedTreesModel" 35 7 15 true (.array .int) := ⟨_, _, _, _, cl_Md, by decide, Or.inl (rn_in 691 rfl rfl), rfl, rfl⟩
set_option maxRecDepth 100000 in
theorem ff_Md_35 : rn_Ff "WeightedTreesModel" 35 7 15 (.array .int) := ⟨_, _, _, _, cl_Md, by decide, (rn_in 691 rfl rfl), rfl, rfl, rfl⟩
set_option maxRecDepth 100000 in
theorem fd_Md_38 : rn_Fd "WeightedTreesModel" 38 7 18 true (.array .int) := ⟨_, _, _, _, cl_Md, by decide, Or.inl (rn_in 694 rfl rfl), rfl, rfl⟩
set_option maxRecDepth 100000 in
theorem ff_Md_38 : rn_Ff "WeightedTreesModel" 38 7 18 (.array .int) := ⟨_, _, _, _, cl_Md, by decide, (rn_in 694 rfl rfl), rfl, rfl, rfl⟩
set_option maxRecDepth 100000 in
theorem fd_Md_41 : rn_Fd "WeightedTreesModel" 41 7 19 true (.array .long) := ⟨_, _, _, _, cl_Md, by decide, Or.inl (rn_in 695 rfl rfl), rfl, rfl⟩
set_option maxRecDepth 100000 in
theorem ff_Md_41 : rn_Ff "WeightedTreesModel" 41 7 19 (.array .long) := ⟨_, _, _, _, cl_Md, by decide, (rn_in 695 rfl rfl), rfl, rfl, rfl⟩
set_option maxRecDepth 100000 in
theorem fd_Md_44 : rn_Fd "WeightedTreesModel" 44 7 20 true (.array .int) := ⟨_, _, _, _, cl_Md, by decide, Or.inl (rn_in 696 rfl rfl), rfl, rfl⟩
set_option maxRecDepth 100000 in
theorem ff_Md_44 : rn_Ff "WeightedTreesModel" 44 7 20 (.array .int) := ⟨_, _, _, _, cl_Md, by decide, (rn_in 696 rfl rfl), rfl, rfl, rfl⟩
set_option maxRecDepth 100000 in
theorem fd_Md_47 : rn_Fd "WeightedTreesModel" 47 7 21 true (.array .long) := ⟨_, _, _, _, cl_Md, by decide, Or.inl (rn_in 697 rfl rfl), rfl, rfl⟩
set_option maxRecDepth 100000 in
theorem ff_Md_47 : rn_Ff "WeightedTreesModel" 47 7 21 (.array .long) := ⟨_, _, _, _, cl_Md, by decide, (rn_in 697 rfl rfl), rfl, rfl, rfl⟩
set_option maxRecDepth 100000 in
theorem fd_Md_50 : rn_Fd "WeightedTreesModel" 50 7 22 true (.array .int) := ⟨_, _, _, _, cl_Md, by decide, Or.inl (rn_in 698 rfl rfl), rfl, rfl⟩
set_option maxRecDepth 100000 in
theorem ff_Md_50 : rn_Ff "WeightedTreesModel" 50 7 22 (.array .int) := ⟨_, _, _, _, cl_Md, by decide, (rn_in 698 rfl rfl), rfl, rfl, rfl⟩
set_option maxRecDepth 100000 in
theorem fd_Md_53 : rn_Fd "WeightedTreesModel" 53 7 23 true (.array .long) := ⟨_, _, _, _, cl_Md, by decide, Or.inl (rn_in 699 rfl rfl), rfl, rfl⟩
set_option maxRecDepth 100000 in
theorem ff_Md_53 : rn_Ff "WeightedTreesModel" 53 7 23 (.array .long) := ⟨_, _, _, _, cl_Md, by decide, (rn_in 699 rfl rfl), rfl, rfl, rfl⟩
set_option maxRecDepth 100000 in
theorem fd_Md_56 : rn_Fd "WeightedTreesModel" 56 7 24 true (.array .long) := ⟨_, _, _, _, cl_Md, by decide, Or.inl (rn_in 700 rfl rfl), rfl, rfl⟩
set_option maxRecDepth 100000 in
theorem ff_Md_56 : rn_Ff "WeightedTreesModel" 56 7 24 (.array .long) := ⟨_, _, _, _, cl_Md, by decide, (rn_in 700 rfl rfl), rfl, rfl, rfl⟩
set_option maxRecDepth 100000 in
theorem fd_Md_59 : rn_Fd "WeightedTreesModel" 59 7 25 true (.array .long) := ⟨_, _, _, _, cl_Md, by decide, Or.inl (rn_in 701 rfl rfl), rfl, rfl⟩
set_option maxRecDepth 100000 in
theorem ff_Md_59 : rn_Ff "WeightedTreesModel" 59 7 25 (.array .long) := ⟨_, _, _, _, cl_Md, by decide, (rn_in 701 rfl rfl), rfl, rfl, rfl⟩
set_option maxRecDepth 100000 in
theorem fd_Md_62 : rn_Fd "WeightedTreesModel" 62 7 26 true (.array .int) := ⟨_, _, _, _, cl_Md, by decide, Or.inl (rn_in 702 rfl rfl), rfl, rfl⟩
set_option maxRecDepth 100000 in
theorem ff_Md_62 : rn_Ff "WeightedTreesModel" 62 7 26 (.array .int) := ⟨_, _, _, _, cl_Md, by decide, (rn_in 702 rfl rfl), rfl, rfl, rfl⟩
set_option maxRecDepth 100000 in
theorem fd_Md_65 : rn_Fd "WeightedTreesModel" 65 7 28 true (.array .int) := ⟨_, _, _, _, cl_Md, by decide, Or.inl (rn_in 704 rfl rfl), rfl, rfl⟩
set_option maxRecDepth 100000 in
theorem ff_Md_65 : rn_Ff "WeightedTreesModel" 65 7 28 (.array .int) := ⟨_, _, _, _, cl_Md, by decide, (rn_in 704 rfl rfl), rfl, rfl, rfl⟩
set_option maxRecDepth 100000 in
theorem fd_Md_68 : rn_Fd "WeightedTreesModel" 68 7 29 true (.array .int) := ⟨_, _, _, _, cl_Md, by decide, Or.inl (rn_in 705 rfl rfl), rfl, rfl⟩
set_option maxRecDepth 100000 in
theorem ff_Md_68 : rn_Ff "WeightedTreesModel" 68 7 29 (.array .int) := ⟨_, _, _, _, cl_Md, by decide, (rn_in 705 rfl rfl), rfl, rfl, rfl⟩
set_option maxRecDepth 100000 in
theorem fd_Md_71 : rn_Fd "WeightedTreesModel" 71 7 30 true (.array .int) := ⟨_, _, _, _, cl_Md, by decide, Or.inl (rn_in 706 rfl rfl), rfl, rfl⟩
set_option maxRecDepth 100000 in
theorem ff_Md_71 : rn_Ff "WeightedTreesModel" 71 7 30 (.array .int) := ⟨_, _, _, _, cl_Md, by decide, (rn_in 706 rfl rfl), rfl, rfl, rfl⟩
set_option maxRecDepth 100000 in
theorem fd_Md_74 : rn_Fd "WeightedTreesModel" 74 7 31 true (.array .int) := ⟨_, _, _, _, cl_Md, by decide, Or.inl (rn_in 707 rfl rfl), rfl, rfl⟩
set_option maxRecDepth 100000 in
theorem ff_Md_74 : rn_Ff "WeightedTreesModel" 74 7 31 (.array .int) := ⟨_, _, _, _, cl_Md, by decide, (rn_in 707 rfl rfl), rfl, rfl, rfl⟩
set_option maxRecDepth 100000 in
theorem fd_Md_77 : rn_Fd "WeightedTreesModel" 77 7 0 false .int := ⟨_, _, _, _, cl_Md, by decide, Or.inl (rn_in 676 rfl rfl), rfl, rfl⟩
set_option maxRecDepth 100000 in
theorem fd_Md_81 : rn_Fd "WeightedTreesModel" 81 7 2 false .int := ⟨_, _, _, _, cl_Md, by decide, Or.inl (rn_in 678 rfl rfl), rfl, rfl⟩
set_option maxRecDepth 100000 in
theorem fd_Md_86 : rn_Fd "WeightedTreesModel" 86 7 32 false .int := ⟨_, _, _, _, cl_Md, by decide, Or.inl (rn_in 708 rfl rfl), rfl, rfl⟩
set_option maxRecDepth 100000 in
theorem fd_Md_89 : rn_Fd "WeightedTreesModel" 89 7 33 false .int := ⟨_, _, _, _, cl_Md, by decide, Or.inl (rn_in 709 rfl rfl), rfl, rfl⟩
set_option maxRecDepth 100000 in
theorem fd_Md_92 : rn_Fd "WeightedTreesModel" 92 7 34 false .int := ⟨_, _, _, _, cl_Md, by decide, Or.inl (rn_in 710 rfl rfl), rfl, rfl⟩
set_option maxRecDepth 100000 in
theorem fd_Md_99 : rn_Fd "WeightedTreesModel" 99 7 14 false .int := ⟨_, _, _, _, cl_Md, by decide, Or.inl (rn_in 690 rfl rfl), rfl, rfl⟩
set_option maxRecDepth 100000 in
theorem fd_Md_115 : rn_Fd "WeightedTreesModel" 115 7 8 false .int := ⟨_, _, _, _, cl_Md, by decide, Or.inl (rn_in 684 rfl rfl), rfl, rfl⟩
set_option maxRecDepth 100000 in
theorem fd_Md_165 : rn_Fd "WeightedTreesModel" 165 7 5 false .int := ⟨_, _, _, _, cl_Md, by decide, Or.inl (rn_in 681 rfl rfl), rfl, rfl⟩
set_option maxRecDepth 100000 in
theorem fd_Md_168 : rn_Fd "WeightedTreesModel" 168 7 6 false .boolean := ⟨_, _, _, _, cl_Md, by decide, Or.inl (rn_in 682 rfl rfl), rfl, rfl⟩
set_option maxRecDepth 100000 in
theorem fd_Md_172 : rn_Fd "WeightedTreesModel" 172 7 16 false .boolean := ⟨_, _, _, _, cl_Md, by decide, Or.inl (rn_in 692 rfl rfl), rfl, rfl⟩
set_option maxRecDepth 100000 in
theorem fd_Md_175 : rn_Fd "WeightedTreesModel" 175 7 27 false .int := ⟨_, _, _, _, cl_Md, by decide, Or.inl (rn_in 703 rfl rfl), rfl, rfl⟩
set_option maxRecDepth 100000 in
theorem fd_Md_178 : rn_Fd "WeightedTreesModel" 178 7 7 false .int := ⟨_, _, _, _, cl_Md, by decide, Or.inl (rn_in 683 rfl rfl), rfl, rfl⟩
set_option maxRecDepth 100000 in
theorem fd_Md_198 : rn_Fd "WeightedTreesModel" 198 7 17 false .int := ⟨_, _, _, _, cl_Md, by decide, Or.inl (rn_in 693 rfl rfl), rfl, rfl⟩
set_option maxRecDepth 100000 in
theorem is_Ch_49 : rn_IS "WeightedTrees$Chart" 49 M_Ch_cell 3 := ⟨⟨(rn_in 484 rfl rfl), (rn_in 3 rfl rfl), by decide, by decide +kernel⟩, (Or.inl (rn_in 482 rfl rfl)), (rn_in 483 rfl rfl)⟩
set_option maxRecDepth 100000 in
theorem iv_Ch_61 : rn_IV "WeightedTrees$Chart" 61 M_Ch_fillPart 3 2 := ⟨⟨(rn_in 481 rfl rfl), (rn_in 3 rfl rfl), by decide, by decide +kernel⟩, (Or.inl (rn_in 550 rfl rfl)), (rn_in 479 rfl rfl), (rn_in 480 rfl rfl), _, rfl, rfl⟩
set_option maxRecDepth 100000 in
theorem iv_Ch_79 : rn_IV "WeightedTrees$Chart" 79 M_Ch_addRule 4 2 := ⟨⟨(rn_in 488 rfl rfl), (rn_in 3 rfl rfl), by decide, by decide +kernel⟩, (Or.inl (rn_in 485 rfl rfl)), (rn_in 487 rfl rfl), (rn_inS 18 rfl rfl), _, rfl, rfl⟩
set_option maxRecDepth 100000 in
theorem iv_Ch_83 : rn_IV "WeightedTrees$Chart" 83 M_Ch_matchBody 4 2 := ⟨⟨(rn_in 492 rfl rfl), (rn_in 3 rfl rfl), by decide, by decide +kernel⟩, (Or.inl (rn_in 489 rfl rfl)), (rn_in 491 rfl rfl), (rn_inS 19 rfl rfl), _, rfl, rfl⟩
set_option maxRecDepth 100000 in
theorem iv_Ch_90 : rn_IV "WeightedTrees$Chart" 90 M_Ch_keepBody 4 2 := ⟨⟨(rn_in 506 rfl rfl), (rn_in 3 rfl rfl), by decide, by decide +kernel⟩, (Or.inl (rn_in 503 rfl rfl)), (rn_in 505 rfl rfl), (rn_inS 22 rfl rfl), _, rfl, rfl⟩
set_option maxRecDepth 100000 in
theorem iv_Ch_96 : rn_IV "WeightedTrees$Chart" 96 M_Gr_symbol 2 5 := ⟨⟨(rn_in 429 rfl rfl), (rn_in 6 rfl rfl), by decide, by decide +kernel⟩, (Or.inl (rn_in 493 rfl rfl)), (rn_in 427 rfl rfl), (rn_in 428 rfl rfl), _, rfl, rfl⟩
set_option maxRecDepth 100000 in
theorem is_Ch_100 : rn_IS "WeightedTrees$Chart" 100 M_Gr_isNonterminal 1 := ⟨⟨(rn_in 432 rfl rfl), (rn_in 6 rfl rfl), by decide, by decide +kernel⟩, (Or.inl (rn_in 494 rfl rfl)), (rn_in 431 rfl rfl)⟩
set_option maxRecDepth 100000 in
theorem iv_Ch_104 : rn_IV "WeightedTrees$Chart" 104 M_Ch_matchNonterminal 4 2 := ⟨⟨(rn_in 498 rfl rfl), (rn_in 3 rfl rfl), by decide, by decide +kernel⟩, (Or.inl (rn_in 495 rfl rfl)), (rn_in 497 rfl rfl), (rn_inS 20 rfl rfl), _, rfl, rfl⟩
set_option maxRecDepth 100000 in
theorem iv_Ch_108 : rn_IV "WeightedTrees$Chart" 108 M_Ch_matchTerminal 4 2 := ⟨⟨(rn_in 502 rfl rfl), (rn_in 3 rfl rfl), by decide, by decide +kernel⟩, (Or.inl (rn_in 499 rfl rfl)), (rn_in 501 rfl rfl), (rn_inS 21 rfl rfl), _, rfl, rfl⟩
set_option maxRecDepth 100000 in
theorem is_Dr_19 : rn_IS "WeightedTrees$Draft" 19 M_Dr_codeAt 2 := ⟨⟨(rn_in 219 rfl rfl), (rn_in 2 rfl rfl), by decide, by decide +kernel⟩, (Or.inl (rn_in 217 rfl rfl)), (rn_in 218 rfl rfl)⟩
set_option maxRecDepth 100000 in
theorem is_Dr_23 : rn_IS "WeightedTrees$Draft" 23 M_Dr_isAllowed 1 := ⟨⟨(rn_in 223 rfl rfl), (rn_in 2 rfl rfl), by decide, by decide +kernel⟩, (Or.inl (rn_in 221 rfl rfl)), (rn_in 222 rfl rfl)⟩
set_option maxRecDepth 100000 in
theorem is_Dr_27 : rn_IS "WeightedTrees$Draft" 27 M_Wt_isSmallLetter 1 := ⟨⟨(rn_in 329 rfl rfl), (rn_in 1 rfl rfl), by decide, by decide +kernel⟩, (Or.inr ⟨_, (rn_in 539 rfl rfl)⟩), (rn_in 328 rfl rfl)⟩
set_option maxRecDepth 100000 in
theorem iv_Gr_44 : rn_IV "WeightedTrees$Grammar" 44 M_Gr_emptyable 0 5 := ⟨⟨(rn_in 421 rfl rfl), (rn_in 6 rfl rfl), by decide, by decide +kernel⟩, (Or.inl (rn_in 418 rfl rfl)), (rn_in 420 rfl rfl), (rn_inS 13 rfl rfl), _, rfl, rfl⟩
set_option maxRecDepth 100000 in
theorem iv_Gr_48 : rn_IV "WeightedTrees$Grammar" 48 M_Gr_findReached 1 5 := ⟨⟨(rn_in 439 rfl rfl), (rn_in 6 rfl rfl), by decide, by decide +kernel⟩, (Or.inl (rn_in 436 rfl rfl)), (rn_in 438 rfl rfl), (rn_inS 15 rfl rfl), _, rfl, rfl⟩
set_option maxRecDepth 100000 in
theorem is_Gr_52 : rn_IS "WeightedTrees$Grammar" 52 M_Gr_hasBit 2 := ⟨⟨(rn_in 435 rfl rfl), (rn_in 6 rfl rfl), by decide, by decide +kernel⟩, (Or.inl (rn_in 433 rfl rfl)), (rn_in 434 rfl rfl)⟩
set_option maxRecDepth 100000 in
theorem is_Gr_56 : rn_IS "WeightedTrees$Grammar" 56 M_Ji_bitCount 1 := ⟨⟨(rn_in 446 rfl rfl), (rn_in 13 rfl rfl), by decide, by decide +kernel⟩, (Or.inl (rn_in 444 rfl rfl)), (rn_in 445 rfl rfl)⟩
set_option maxRecDepth 100000 in
theorem iv_Gr_62 : rn_IV "WeightedTrees$Grammar" 62 M_Gr_vanishes 3 5 := ⟨⟨(rn_in 425 rfl rfl), (rn_in 6 rfl rfl), by decide, by decide +kernel⟩, (Or.inl (rn_in 422 rfl rfl)), (rn_in 424 rfl rfl), (rn_inS 14 rfl rfl), _, rfl, rfl⟩
set_option maxRecDepth 100000 in
theorem iv_Gr_66 : rn_IV "WeightedTrees$Grammar" 66 M_Gr_symbol 2 5 := ⟨⟨(rn_in 429 rfl rfl), (rn_in 6 rfl rfl), by decide, by decide +kernel⟩, (Or.inl (rn_in 426 rfl rfl)), (rn_in 427 rfl rfl), (rn_in 428 rfl rfl), _, rfl, rfl⟩
set_option maxRecDepth 100000 in
theorem is_Gr_70 : rn_IS "WeightedTrees$Grammar" 70 M_Gr_isNonterminal 1 := ⟨⟨(rn_in 432 rfl rfl), (rn_in 6 rfl rfl), by decide, by decide +kernel⟩, (Or.inl (rn_in 430 rfl rfl)), (rn_in 431 rfl rfl)⟩
set_option maxRecDepth 100000 in
theorem iv_Gr_74 : rn_IV "WeightedTrees$Grammar" 74 M_Gr_closeReached 0 5 := ⟨⟨(rn_in 443 rfl rfl), (rn_in 6 rfl rfl), by decide, by decide +kernel⟩, (Or.inl (rn_in 440 rfl rfl)), (rn_in 442 rfl rfl), (rn_inS 16 rfl rfl), _, rfl, rfl⟩
set_option maxRecDepth 100000 in
theorem iv_Rd_26 : rn_IV "WeightedTrees$GrammarReader" 26 M_Gr_clear 0 5 := ⟨⟨(rn_in 279 rfl rfl), (rn_in 6 rfl rfl), by decide, by decide +kernel⟩, (Or.inl (rn_in 276 rfl rfl)), (rn_in 277 rfl rfl), (rn_in 278 rfl rfl), _, rfl, rfl⟩
set_option maxRecDepth 100000 in
theorem iv_Rd_31 : rn_IV "WeightedTrees$GrammarReader" 31 M_Dr_lineCount 0 1 := ⟨⟨(rn_in 283 rfl rfl), (rn_in 2 rfl rfl), by decide, by decide +kernel⟩, (Or.inl (rn_in 280 rfl rfl)), (rn_in 281 rfl rfl), (rn_in 282 rfl rfl), _, rfl, rfl⟩
set_option maxRecDepth 100000 in
theorem iv_Rd_37 : rn_IV "WeightedTrees$GrammarReader" 37 M_Dr_lineEnd 1 1 := ⟨⟨(rn_in 287 rfl rfl), (rn_in 2 rfl rfl), by decide, by decide +kernel⟩, (Or.inl (rn_in 284 rfl rfl)), (rn_in 285 rfl rfl), (rn_in 286 rfl rfl), _, rfl, rfl⟩
set_option maxRecDepth 100000 in
theorem iv_Rd_41 : rn_IV "WeightedTrees$GrammarReader" 41 M_Rd_isLeftOut 0 6 := ⟨⟨(rn_in 291 rfl rfl), (rn_in 8 rfl rfl), by decide, by decide +kernel⟩, (Or.inl (rn_in 288 rfl rfl)), (rn_in 290 rfl rfl), (rn_inS 1 rfl rfl), _, rfl, rfl⟩
set_option maxRecDepth 100000 in
theorem iv_Rd_45 : rn_IV "WeightedTrees$GrammarReader" 45 M_Rd_readRule 0 6 := ⟨⟨(rn_in 303 rfl rfl), (rn_in 8 rfl rfl), by decide, by decide +kernel⟩, (Or.inl (rn_in 300 rfl rfl)), (rn_in 302 rfl rfl), (rn_inS 4 rfl rfl), _, rfl, rfl⟩
set_option maxRecDepth 100000 in
theorem iv_Rd_51 : rn_IV "WeightedTrees$GrammarReader" 51 M_Rd_sees 1 6 := ⟨⟨(rn_in 295 rfl rfl), (rn_in 8 rfl rfl), by decide, by decide +kernel⟩, (Or.inl (rn_in 292 rfl rfl)), (rn_in 294 rfl rfl), (rn_inS 2 rfl rfl), _, rfl, rfl⟩
set_option maxRecDepth 100000 in
theorem iv_Rd_55 : rn_IV "WeightedTrees$GrammarReader" 55 M_Rd_readHead 1 6 := ⟨⟨(rn_in 307 rfl rfl), (rn_in 8 rfl rfl), by decide, by decide +kernel⟩, (Or.inl (rn_in 304 rfl rfl)), (rn_in 306 rfl rfl), (rn_inS 5 rfl rfl), _, rfl, rfl⟩
set_option maxRecDepth 100000 in
theorem iv_Rd_59 : rn_IV "WeightedTrees$GrammarReader" 59 M_Rd_skip 1 6 := ⟨⟨(rn_in 322 rfl rfl), (rn_in 8 rfl rfl), by decide, by decide +kernel⟩, (Or.inl (rn_in 319 rfl rfl)), (rn_in 321 rfl rfl), (rn_inS 7 rfl rfl), _, rfl, rfl⟩
set_option maxRecDepth 100000 in
theorem iv_Rd_62 : rn_IV "WeightedTrees$GrammarReader" 62 M_Rd_readBody 1 6 := ⟨⟨(rn_in 326 rfl rfl), (rn_in 8 rfl rfl), by decide, by decide +kernel⟩, (Or.inl (rn_in 323 rfl rfl)), (rn_in 325 rfl rfl), (rn_inS 8 rfl rfl), _, rfl, rfl⟩
set_option maxRecDepth 100000 in
theorem iv_Rd_65 : rn_IV "WeightedTrees$GrammarReader" 65 M_Rd_readWeight 1 6 := ⟨⟨(rn_in 333 rfl rfl), (rn_in 8 rfl rfl), by decide, by decide +kernel⟩, (Or.inl (rn_in 330 rfl rfl)), (rn_in 332 rfl rfl), (rn_inS 9 rfl rfl), _, rfl, rfl⟩
set_option maxRecDepth 100000 in
theorem iv_Rd_68 : rn_IV "WeightedTrees$GrammarReader" 68 M_Rd_readCost 1 6 := ⟨⟨(rn_in 345 rfl rfl), (rn_in 8 rfl rfl), by decide, by decide +kernel⟩, (Or.inl (rn_in 342 rfl rfl)), (rn_in 344 rfl rfl), (rn_inS 11 rfl rfl), _, rfl, rfl⟩
set_option maxRecDepth 100000 in
theorem iv_Rd_71 : rn_IV "WeightedTrees$GrammarReader" 71 M_Rd_seen 0 6 := ⟨⟨(rn_in 299 rfl rfl), (rn_in 8 rfl rfl), by decide, by decide +kernel⟩, (Or.inl (rn_in 296 rfl rfl)), (rn_in 298 rfl rfl), (rn_inS 3 rfl rfl), _, rfl, rfl⟩
set_option maxRecDepth 100000 in
theorem is_Rd_74 : rn_IS "WeightedTrees$GrammarReader" 74 M_Wt_isCapital 1 := ⟨⟨(rn_in 310 rfl rfl), (rn_in 1 rfl rfl), by decide, by decide +kernel⟩, (Or.inr ⟨_, (rn_in 308 rfl rfl)⟩), (rn_in 309 rfl rfl)⟩
set_option maxRecDepth 100000 in
theorem iv_Rd_81 : rn_IV "WeightedTrees$GrammarReader" 81 M_Rd_readSymbol 0 6 := ⟨⟨(rn_in 314 rfl rfl), (rn_in 8 rfl rfl), by decide, by decide +kernel⟩, (Or.inl (rn_in 311 rfl rfl)), (rn_in 313 rfl rfl), (rn_inS 6 rfl rfl), _, rfl, rfl⟩
set_option maxRecDepth 100000 in
theorem is_Rd_84 : rn_IS "WeightedTrees$GrammarReader" 84 M_Wt_isSmallLetter 1 := ⟨⟨(rn_in 329 rfl rfl), (rn_in 1 rfl rfl), by decide, by decide +kernel⟩, (Or.inr ⟨_, (rn_in 327 rfl rfl)⟩), (rn_in 328 rfl rfl)⟩
set_option maxRecDepth 100000 in
theorem iv_Rd_93 : rn_IV "WeightedTrees$GrammarReader" 93 M_Gr_nonterminalOf 1 5 := ⟨⟨(rn_in 318 rfl rfl), (rn_in 6 rfl rfl), by decide, by decide +kernel⟩, (Or.inl (rn_in 315 rfl rfl)), (rn_in 316 rfl rfl), (rn_in 317 rfl rfl), _, rfl, rfl⟩
set_option maxRecDepth 100000 in
theorem iv_Rd_96 : rn_IV "WeightedTrees$GrammarReader" 96 M_Rd_readNumber 0 6 := ⟨⟨(rn_in 337 rfl rfl), (rn_in 8 rfl rfl), by decide, by decide +kernel⟩, (Or.inl (rn_in 334 rfl rfl)), (rn_in 336 rfl rfl), (rn_inS 10 rfl rfl), _, rfl, rfl⟩
set_option maxRecDepth 100000 in
theorem is_Rd_103 : rn_IS "WeightedTrees$GrammarReader" 103 M_Rd_inverse 1 := ⟨⟨(rn_in 340 rfl rfl), (rn_in 8 rfl rfl), by decide, by decide +kernel⟩, (Or.inl (rn_in 338 rfl rfl)), (rn_in 339 rfl rfl)⟩
set_option maxRecDepth 100000 in
theorem is_Tl_39 : rn_IS "WeightedTrees$TreeListing" 39 M_Ch_cell 3 := ⟨⟨(rn_in 484 rfl rfl), (rn_in 3 rfl rfl), by decide, by decide +kernel⟩, (Or.inl (rn_in 639 rfl rfl)), (rn_in 483 rfl rfl)⟩
set_option maxRecDepth 100000 in
theorem iv_Tl_43 : rn_IV "WeightedTrees$TreeListing" 43 M_Tl_keepPlace 4 4 := ⟨⟨(rn_in 643 rfl rfl), (rn_in 5 rfl rfl), by decide, by decide +kernel⟩, (Or.inl (rn_in 640 rfl rfl)), (rn_in 642 rfl rfl), (rn_inS 26 rfl rfl), _, rfl, rfl⟩
set_option maxRecDepth 100000 in
theorem iv_Tl_47 : rn_IV "WeightedTrees$TreeListing" 47 M_Tl_shownCount 0 4 := ⟨⟨(rn_in 647 rfl rfl), (rn_in 5 rfl rfl), by decide, by decide +kernel⟩, (Or.inl (rn_in 644 rfl rfl)), (rn_in 645 rfl rfl), (rn_in 646 rfl rfl), _, rfl, rfl⟩
set_option maxRecDepth 100000 in
theorem iv_Tl_51 : rn_IV "WeightedTrees$TreeListing" 51 M_Tl_expand 3 4 := ⟨⟨(rn_in 654 rfl rfl), (rn_in 5 rfl rfl), by decide, by decide +kernel⟩, (Or.inl (rn_in 651 rfl rfl)), (rn_in 653 rfl rfl), (rn_inS 27 rfl rfl), _, rfl, rfl⟩
set_option maxRecDepth 100000 in
theorem iv_Tl_61 : rn_IV "WeightedTrees$TreeListing" 61 M_Gr_symbol 2 5 := ⟨⟨(rn_in 429 rfl rfl), (rn_in 6 rfl rfl), by decide, by decide +kernel⟩, (Or.inl (rn_in 655 rfl rfl)), (rn_in 427 rfl rfl), (rn_in 428 rfl rfl), _, rfl, rfl⟩
set_option maxRecDepth 100000 in
theorem iv_Tl_64 : rn_IV "WeightedTrees$TreeListing" 64 M_Ch_lengthOf 2 2 := ⟨⟨(rn_in 659 rfl rfl), (rn_in 3 rfl rfl), by decide, by decide +kernel⟩, (Or.inl (rn_in 656 rfl rfl)), (rn_in 657 rfl rfl), (rn_in 658 rfl rfl), _, rfl, rfl⟩
set_option maxRecDepth 100000 in
theorem is_Tl_67 : rn_IS "WeightedTrees$TreeListing" 67 M_Gr_isNonterminal 1 := ⟨⟨(rn_in 432 rfl rfl), (rn_in 6 rfl rfl), by decide, by decide +kernel⟩, (Or.inl (rn_in 660 rfl rfl)), (rn_in 431 rfl rfl)⟩
set_option maxRecDepth 100000 in
theorem iv_Ut_31 : rn_IV "WeightedTrees$UnitTable" 31 M_Ut_addRule 3 3 := ⟨⟨(rn_in 514 rfl rfl), (rn_in 4 rfl rfl), by decide, by decide +kernel⟩, (Or.inl (rn_in 511 rfl rfl)), (rn_in 513 rfl rfl), (rn_inS 23 rfl rfl), _, rfl, rfl⟩
set_option maxRecDepth 100000 in
theorem iv_Ut_38 : rn_IV "WeightedTrees$UnitTable" 38 M_Gr_symbol 2 5 := ⟨⟨(rn_in 429 rfl rfl), (rn_in 6 rfl rfl), by decide, by decide +kernel⟩, (Or.inl (rn_in 515 rfl rfl)), (rn_in 427 rfl rfl), (rn_in 428 rfl rfl), _, rfl, rfl⟩
set_option maxRecDepth 100000 in
theorem is_Ut_42 : rn_IS "WeightedTrees$UnitTable" 42 M_Gr_isNonterminal 1 := ⟨⟨(rn_in 432 rfl rfl), (rn_in 6 rfl rfl), by decide, by decide +kernel⟩, (Or.inl (rn_in 516 rfl rfl)), (rn_in 431 rfl rfl)⟩
set_option maxRecDepth 100000 in
theorem is_Ut_49 : rn_IS "WeightedTrees$UnitTable" 49 M_Ut_emptyProduct 4 := ⟨⟨(rn_in 519 rfl rfl), (rn_in 4 rfl rfl), by decide, by decide +kernel⟩, (Or.inl (rn_in 517 rfl rfl)), (rn_in 518 rfl rfl)⟩
set_option maxRecDepth 100000 in
theorem iv_Ut_53 : rn_IV "WeightedTrees$UnitTable" 53 M_Ut_sum 2 3 := ⟨⟨(rn_in 527 rfl rfl), (rn_in 4 rfl rfl), by decide, by decide +kernel⟩, (Or.inl (rn_in 524 rfl rfl)), (rn_in 525 rfl rfl), (rn_in 526 rfl rfl), _, rfl, rfl⟩
set_option maxRecDepth 100000 in
theorem iv_Ut_57 : rn_IV "WeightedTrees$UnitTable" 57 M_Ch_emptySum 1 2 := ⟨⟨(rn_in 523 rfl rfl), (rn_in 3 rfl rfl), by decide, by decide +kernel⟩, (Or.inl (rn_in 520 rfl rfl)), (rn_in 521 rfl rfl), (rn_in 522 rfl rfl), _, rfl, rfl⟩
set_option maxRecDepth 100000 in
theorem iv_Md_95 : rn_IV "WeightedTreesModel" 95 M_Md_isFigure 0 7 := ⟨⟨(rn_in 836 rfl rfl), (rn_in 7 rfl rfl), by decide, by decide +kernel⟩, (Or.inl (rn_in 833 rfl rfl)), (rn_in 835 rfl rfl), (rn_inS 35 rfl rfl), _, rfl, rfl⟩
set_option maxRecDepth 100000 in
theorem is_Md_104 : rn_IS "WeightedTreesModel" 104 M_Md_isCapital 1 := ⟨⟨(rn_in 813 rfl rfl), (rn_in 7 rfl rfl), by decide, by decide +kernel⟩, (Or.inl (rn_in 811 rfl rfl)), (rn_in 812 rfl rfl)⟩
set_option maxRecDepth 100000 in
theorem is_Md_108 : rn_IS "WeightedTreesModel" 108 M_Md_isSmall 1 := ⟨⟨(rn_in 828 rfl rfl), (rn_in 7 rfl rfl), by decide, by decide +kernel⟩, (Or.inl (rn_in 826 rfl rfl)), (rn_in 827 rfl rfl)⟩
set_option maxRecDepth 100000 in
theorem iv_Md_111 : rn_IV "WeightedTreesModel" 111 M_Md_symbol 1 7 := ⟨⟨(rn_in 817 rfl rfl), (rn_in 7 rfl rfl), by decide, by decide +kernel⟩, (Or.inl (rn_in 814 rfl rfl)), (rn_in 816 rfl rfl), (rn_inS 31 rfl rfl), _, rfl, rfl⟩
set_option maxRecDepth 100000 in
theorem iv_Md_118 : rn_IV "WeightedTreesModel" 118 M_Md_next 1 7 := ⟨⟨(rn_in 821 rfl rfl), (rn_in 7 rfl rfl), by decide, by decide +kernel⟩, (Or.inl (rn_in 818 rfl rfl)), (rn_in 820 rfl rfl), (rn_inS 32 rfl rfl), _, rfl, rfl⟩
set_option maxRecDepth 100000 in
theorem iv_Md_121 : rn_IV "WeightedTreesModel" 121 M_Md_body 1 7 := ⟨⟨(rn_in 825 rfl rfl), (rn_in 7 rfl rfl), by decide, by decide +kernel⟩, (Or.inl (rn_in 822 rfl rfl)), (rn_in 824 rfl rfl), (rn_inS 33 rfl rfl), _, rfl, rfl⟩
set_option maxRecDepth 100000 in
theorem iv_Md_124 : rn_IV "WeightedTreesModel" 124 M_Md_number 0 7 := ⟨⟨(rn_in 832 rfl rfl), (rn_in 7 rfl rfl), by decide, by decide +kernel⟩, (Or.inl (rn_in 829 rfl rfl)), (rn_in 831 rfl rfl), (rn_inS 34 rfl rfl), _, rfl, rfl⟩
set_option maxRecDepth 100000 in
theorem is_Md_127 : rn_IS "WeightedTreesModel" 127 M_Md_inverse 1 := ⟨⟨(rn_in 839 rfl rfl), (rn_in 7 rfl rfl), by decide, by decide +kernel⟩, (Or.inl (rn_in 837 rfl rfl)), (rn_in 838 rfl rfl)⟩
set_option maxRecDepth 100000 in
theorem iv_Md_131 : rn_IV "WeightedTreesModel" 131 M_Md_ruleLine 0 7 := ⟨⟨(rn_in 810 rfl rfl), (rn_in 7 rfl rfl), by decide, by decide +kernel⟩, (Or.inl (rn_in 807 rfl rfl)), (rn_in 809 rfl rfl), (rn_inS 30 rfl rfl), _, rfl, rfl⟩
set_option maxRecDepth 100000 in
theorem iv_Md_134 : rn_IV "WeightedTreesModel" 134 M_Md_isLetter 1 7 := ⟨⟨(rn_in 856 rfl rfl), (rn_in 7 rfl rfl), by decide, by decide +kernel⟩, (Or.inl (rn_in 853 rfl rfl)), (rn_in 855 rfl rfl), (rn_inS 39 rfl rfl), _, rfl, rfl⟩
set_option maxRecDepth 100000 in
theorem iv_Md_137 : rn_IV "WeightedTreesModel" 137 M_Md_emptyBodyCost 2 7 := ⟨⟨(rn_in 852 rfl rfl), (rn_in 7 rfl rfl), by decide, by decide +kernel⟩, (Or.inl (rn_in 849 rfl rfl)), (rn_in 851 rfl rfl), (rn_inS 38 rfl rfl), _, rfl, rfl⟩
set_option maxRecDepth 100000 in
theorem iv_Md_141 : rn_IV "WeightedTreesModel" 141 M_Md_findEmptyable 0 7 := ⟨⟨(rn_in 848 rfl rfl), (rn_in 7 rfl rfl), by decide, by decide +kernel⟩, (Or.inl (rn_in 845 rfl rfl)), (rn_in 847 rfl rfl), (rn_inS 37 rfl rfl), _, rfl, rfl⟩
set_option maxRecDepth 100000 in
theorem iv_Md_146 : rn_IV "WeightedTreesModel" 146 M_Md_emptyBody 2 7 := ⟨⟨(rn_in 865 rfl rfl), (rn_in 7 rfl rfl), by decide, by decide +kernel⟩, (Or.inl (rn_in 862 rfl rfl)), (rn_in 864 rfl rfl), (rn_inS 41 rfl rfl), _, rfl, rfl⟩
set_option maxRecDepth 100000 in
theorem iv_Md_150 : rn_IV "WeightedTreesModel" 150 M_Md_readGrammar 1 7 := ⟨⟨(rn_in 806 rfl rfl), (rn_in 7 rfl rfl), by decide, by decide +kernel⟩, (Or.inl (rn_in 803 rfl rfl)), (rn_in 805 rfl rfl), (rn_inS 29 rfl rfl), _, rfl, rfl⟩
set_option maxRecDepth 100000 in
theorem iv_Md_153 : rn_IV "WeightedTreesModel" 153 M_Md_loops 0 7 := ⟨⟨(rn_in 844 rfl rfl), (rn_in 7 rfl rfl), by decide, by decide +kernel⟩, (Or.inl (rn_in 841 rfl rfl)), (rn_in 843 rfl rfl), (rn_inS 36 rfl rfl), _, rfl, rfl⟩
set_option maxRecDepth 100000 in
theorem iv_Md_156 : rn_IV "WeightedTreesModel" 156 M_Md_fillEmpty 0 7 := ⟨⟨(rn_in 861 rfl rfl), (rn_in 7 rfl rfl), by decide, by decide +kernel⟩, (Or.inl (rn_in 858 rfl rfl)), (rn_in 860 rfl rfl), (rn_inS 40 rfl rfl), _, rfl, rfl⟩
set_option maxRecDepth 100000 in
theorem iv_Md_159 : rn_IV "WeightedTreesModel" 159 M_Md_fillUnits 0 7 := ⟨⟨(rn_in 869 rfl rfl), (rn_in 7 rfl rfl), by decide, by decide +kernel⟩, (Or.inl (rn_in 866 rfl rfl)), (rn_in 868 rfl rfl), (rn_inS 42 rfl rfl), _, rfl, rfl⟩
set_option maxRecDepth 100000 in
theorem iv_Md_162 : rn_IV "WeightedTreesModel" 162 M_Md_take 1 7 := ⟨⟨(rn_in 802 rfl rfl), (rn_in 7 rfl rfl), by decide, by decide +kernel⟩, (Or.inl (rn_in 799 rfl rfl)), (rn_in 801 rfl rfl), (rn_inS 28 rfl rfl), _, rfl, rfl⟩
set_option maxRecDepth 100000 in
theorem is_Md_181 : rn_IS "WeightedTreesModel" 181 M_Md_cell 3 := ⟨⟨(rn_in 884 rfl rfl), (rn_in 7 rfl rfl), by decide, by decide +kernel⟩, (Or.inl (rn_in 882 rfl rfl)), (rn_in 883 rfl rfl)⟩
set_option maxRecDepth 100000 in
theorem iv_Md_185 : rn_IV "WeightedTreesModel" 185 M_Md_sumOf 3 7 := ⟨⟨(rn_in 892 rfl rfl), (rn_in 7 rfl rfl), by decide, by decide +kernel⟩, (Or.inl (rn_in 889 rfl rfl)), (rn_in 891 rfl rfl), (rn_inS 45 rfl rfl), _, rfl, rfl⟩
set_option maxRecDepth 100000 in
theorem iv_Md_189 : rn_IV "WeightedTreesModel" 189 M_Md_costOf 3 7 := ⟨⟨(rn_in 900 rfl rfl), (rn_in 7 rfl rfl), by decide, by decide +kernel⟩, (Or.inl (rn_in 897 rfl rfl)), (rn_in 899 rfl rfl), (rn_inS 47 rfl rfl), _, rfl, rfl⟩
set_option maxRecDepth 100000 in
theorem iv_Md_192 : rn_IV "WeightedTreesModel" 192 M_Md_bodySum 3 7 := ⟨⟨(rn_in 888 rfl rfl), (rn_in 7 rfl rfl), by decide, by decide +kernel⟩, (Or.inl (rn_in 885 rfl rfl)), (rn_in 887 rfl rfl), (rn_inS 44 rfl rfl), _, rfl, rfl⟩
set_option maxRecDepth 100000 in
theorem iv_Md_195 : rn_IV "WeightedTreesModel" 195 M_Md_bodyCost 3 7 := ⟨⟨(rn_in 896 rfl rfl), (rn_in 7 rfl rfl), by decide, by decide +kernel⟩, (Or.inl (rn_in 893 rfl rfl)), (rn_in 895 rfl rfl), (rn_inS 46 rfl rfl), _, rfl, rfl⟩
set_option maxRecDepth 100000 in
theorem iv_Md_201 : rn_IV "WeightedTreesModel" 201 M_Md_fillPart 2 7 := ⟨⟨(rn_in 881 rfl rfl), (rn_in 7 rfl rfl), by decide, by decide +kernel⟩, (Or.inl (rn_in 878 rfl rfl)), (rn_in 880 rfl rfl), (rn_inS 43 rfl rfl), _, rfl, rfl⟩
set_option maxRecDepth 100000 in
theorem iv_Md_205 : rn_IV "WeightedTreesModel" 205 M_Md_defer 4 7 := ⟨⟨(rn_in 948 rfl rfl), (rn_in 7 rfl rfl), by decide, by decide +kernel⟩, (Or.inl (rn_in 945 rfl rfl)), (rn_in 947 rfl rfl), (rn_inS 51 rfl rfl), _, rfl, rfl⟩
set_option maxRecDepth 100000 in
theorem iv_Md_209 : rn_IV "WeightedTreesModel" 209 M_Md_ruleFor 3 7 := ⟨⟨(rn_in 952 rfl rfl), (rn_in 7 rfl rfl), by decide, by decide +kernel⟩, (Or.inl (rn_in 949 rfl rfl)), (rn_in 951 rfl rfl), (rn_inS 52 rfl rfl), _, rfl, rfl⟩
set_option maxRecDepth 100000 in
theorem iv_Md_212 : rn_IV "WeightedTreesModel" 212 M_Md_turnOver 2 7 := ⟨⟨(rn_in 956 rfl rfl), (rn_in 7 rfl rfl), by decide, by decide +kernel⟩, (Or.inl (rn_in 953 rfl rfl)), (rn_in 955 rfl rfl), (rn_inS 53 rfl rfl), _, rfl, rfl⟩
set_option maxRecDepth 100000 in
theorem iv_Md_215 : rn_IV "WeightedTreesModel" 215 M_Md_isSymbol 1 7 := ⟨⟨(rn_in 912 rfl rfl), (rn_in 7 rfl rfl), by decide, by decide +kernel⟩, (Or.inl (rn_in 909 rfl rfl)), (rn_in 911 rfl rfl), (rn_inS 48 rfl rfl), _, rfl, rfl⟩
set_option maxRecDepth 100000 in
theorem iv_Md_218 : rn_IV "WeightedTreesModel" 218 M_Md_refusal 3 7 := ⟨⟨(rn_in 932 rfl rfl), (rn_in 7 rfl rfl), by decide, by decide +kernel⟩, (Or.inl (rn_in 929 rfl rfl)), (rn_in 931 rfl rfl), (rn_inS 49 rfl rfl), _, rfl, rfl⟩
set_option maxRecDepth 100000 in
theorem iv_Md_221 : rn_IV "WeightedTreesModel" 221 M_Md_unroll 3 7 := ⟨⟨(rn_in 944 rfl rfl), (rn_in 7 rfl rfl), by decide, by decide +kernel⟩, (Or.inl (rn_in 941 rfl rfl)), (rn_in 943 rfl rfl), (rn_inS 50 rfl rfl), _, rfl, rfl⟩
set_option maxRecDepth 100000 in
theorem ii_Wt_9 : rn_II "WeightedTrees" 9 M_Dr_init 0 := ⟨⟨(rn_in 29 rfl rfl), (rn_in 2 rfl rfl), by decide, by decide +kernel⟩, (Or.inr ⟨_, (rn_in 27 rfl rfl)⟩), (rn_in 28 rfl rfl), rfl⟩
set_option maxRecDepth 100000 in
theorem ii_Wt_18 : rn_II "WeightedTrees" 18 M_Ch_init 0 := ⟨⟨(rn_in 46 rfl rfl), (rn_in 3 rfl rfl), by decide, by decide +kernel⟩, (Or.inr ⟨_, (rn_in 44 rfl rfl)⟩), (rn_in 45 rfl rfl), rfl⟩
set_option maxRecDepth 100000 in
theorem ii_Wt_25 : rn_II "WeightedTrees" 25 M_Ut_init 0 := ⟨⟨(rn_in 94 rfl rfl), (rn_in 4 rfl rfl), by decide, by decide +kernel⟩, (Or.inr ⟨_, (rn_in 92 rfl rfl)⟩), (rn_in 93 rfl rfl), rfl⟩
set_option maxRecDepth 100000 in
theorem ii_Wt_32 : rn_II "WeightedTrees" 32 M_Tl_init 0 := ⟨⟨(rn_in 104 rfl rfl), (rn_in 5 rfl rfl), by decide, by decide +kernel⟩, (Or.inr ⟨_, (rn_in 102 rfl rfl)⟩), (rn_in 103 rfl rfl), rfl⟩
set_option maxRecDepth 100000 in
theorem ii_Wt_39 : rn_II "WeightedTrees" 39 M_Gr_init 0 := ⟨⟨(rn_in 130 rfl rfl), (rn_in 6 rfl rfl), by decide, by decide +kernel⟩, (Or.inr ⟨_, (rn_in 128 rfl rfl)⟩), (rn_in 129 rfl rfl), rfl⟩
set_option maxRecDepth 100000 in
theorem kl_Dr_30 : Cond.constantLong "WeightedTrees$Draft" 30 (255) ∈ rn_tb := (rn_in 220 rfl rfl)
set_option maxRecDepth 100000 in
theorem kl_Rd_110 : Cond.constantLong "WeightedTrees$GrammarReader" 110 (2) ∈ rn_tb := (rn_in 341 rfl rfl)
set_option maxRecDepth 100000 in
theorem kl_Md_84 : Cond.constantLong "WeightedTreesModel" 84 (255) ∈ rn_tb := (rn_in 790 rfl rfl)
set_option maxRecDepth 100000 in
theorem kl_Md_102 : Cond.constantLong "WeightedTreesModel" 102 (2) ∈ rn_tb := (rn_in 840 rfl rfl)
set_option maxRecDepth 100000 in
theorem kl_Md_144 : Cond.constantLong "WeightedTreesModel" 144 (63) ∈ rn_tb := (rn_in 857 rfl rfl)
set_option maxRecDepth 100000 in
theorem kc_Ji_265 : Cond.constant "java/lang/Integer" 265 (1431655765) ∈ rn_tb := (rn_in 447 rfl rfl)
set_option maxRecDepth 100000 in
theorem kc_Ji_266 : Cond.constant "java/lang/Integer" 266 (858993459) ∈ rn_tb := (rn_in 448 rfl rfl)
set_option maxRecDepth 100000 in
theorem kc_Ji_267 : Cond.constant "java/lang/Integer" 267 (252645135) ∈ rn_tb := (rn_in 449 rfl rfl)
set_option maxRecDepth 100000 in
theorem mm_Tl_28 : Cond.methodLink "WeightedTrees$TreeListing" 28 Lib.Math.min.name ∈ rn_tb := (rn_in 648 rfl rfl)
set_option maxRecDepth 100000 in
theorem mm_1 : Cond.static Lib.Math.min.name ∈ rn_tb := (rn_in 649 rfl rfl)
set_option maxRecDepth 100000 in
theorem mm_2 : Cond.initialized "java/lang/Math" ∈ rn_tb := (rn_in 16 rfl rfl)
set_option maxRecDepth 100000 in
theorem mm_3 : Cond.code Lib.Math.min.name Lib.Math.min.code 2 (some .int) ∈ rn_tb := (rn_in 650 rfl rfl)
set_option maxRecDepth 100000 in
theorem oi_Wt_1 : Cond.methodLink "WeightedTrees" 1 Lib.objectInit ∈ rn_tb := (rn_in 22 rfl rfl)
set_option maxRecDepth 100000 in
theorem oi_Ch_5 : Cond.methodLink "WeightedTrees$Chart" 5 Lib.objectInit ∈ rn_tb := (rn_in 47 rfl rfl)
set_option maxRecDepth 100000 in
theorem oi_Dr_3 : Cond.methodLink "WeightedTrees$Draft" 3 Lib.objectInit ∈ rn_tb := (rn_in 30 rfl rfl)
set_option maxRecDepth 100000 in
theorem oi_Gr_3 : Cond.methodLink "WeightedTrees$Grammar" 3 Lib.objectInit ∈ rn_tb := (rn_in 131 rfl rfl)
set_option maxRecDepth 100000 in
theorem oi_Tl_3 : Cond.methodLink "WeightedTrees$TreeListing" 3 Lib.objectInit ∈ rn_tb := (rn_in 105 rfl rfl)
set_option maxRecDepth 100000 in
theorem oi_Ut_3 : Cond.methodLink "WeightedTrees$UnitTable" 3 Lib.objectInit ∈ rn_tb := (rn_in 95 rfl rfl)
set_option maxRecDepth 100000 in
theorem oi_Md_1 : Cond.methodLink "WeightedTreesModel" 1 Lib.objectInit ∈ rn_tb := (rn_in 675 rfl rfl)
set_option maxRecDepth 100000 in
theorem oi_1 : Cond.instanceMethod Lib.objectInit ∈ rn_tb := (rn_in 23 rfl rfl)
set_option maxRecDepth 100000 in
theorem oi_2 : Cond.code Lib.objectInit ⟨#[0xb1]⟩ 1 none ∈ rn_tb := (rn_in 24 rfl rfl)
set_option maxRecDepth 100000 in
theorem ac_int : Cond.arrayClass .int ∈ rn_tb := (rn_in 89 rfl rfl)
set_option maxRecDepth 100000 in
theorem ac_char : Cond.arrayClass .char ∈ rn_tb := (rn_in 41 rfl rfl)
set_option maxRecDepth 100000 in
theorem ac_long : Cond.arrayClass .long ∈ rn_tb := (rn_in 88 rfl rfl)
set_option maxRecDepth 100000 in
theorem nw_Wt_7 : rn_Nw "WeightedTrees" 7 1 2 [.null, .int 0] := ⟨_, _, _, cl_Dr, (rn_in 25 rfl rfl), (rn_in 26 rfl rfl), (rn_in 2 rfl rfl), by decide +kernel, fun _ => ⟨_, _, rfl, rfl, ⟨_, _, rfl, rfl, rfl⟩⟩⟩
set_option maxRecDepth 100000 in
theorem nw_Wt_16 : rn_Nw "WeightedTrees" 16 2 10 [.null, .null, .null, .null, .null, .null, .int 0, .null, .null, .null] := ⟨_, _, _, cl_Ch, (rn_in 42 rfl rfl), (rn_in 43 rfl rfl), (rn_in 3 rfl rfl), by decide +kernel, fun _ => ⟨_, _, rfl, rfl, ⟨_, _, rfl, rfl, ⟨_, _, rfl, rfl, ⟨_, _, rfl, rfl, ⟨_, _, rfl, rfl, ⟨_, _, rfl, rfl, ⟨_, _, rfl, rfl, ⟨_, _, rfl, rfl, ⟨_, _, rfl, rfl, ⟨_, _, rfl, rfl, rfl⟩⟩⟩⟩⟩⟩⟩⟩⟩⟩⟩
set_option maxRecDepth 100000 in
theorem nw_Wt_23 : rn_Nw "WeightedTrees" 23 3 1 [.null] := ⟨_, _, _, cl_Ut, (rn_in 90 rfl rfl), (rn_in 91 rfl rfl), (rn_in 4 rfl rfl), by decide +kernel, fun _ => ⟨_, _, rfl, rfl, rfl⟩⟩
set_option maxRecDepth 100000 in
theorem nw_Wt_30 : rn_Nw "WeightedTrees" 30 4 5 [.null, .null, .null, .null, .int 0] := ⟨_, _, _, cl_Tl, (rn_in 100 rfl rfl), (rn_in 101 rfl rfl), (rn_in 5 rfl rfl), by decide +kernel, fun _ => ⟨_, _, rfl, rfl, ⟨_, _, rfl, rfl, ⟨_, _, rfl, rfl, ⟨_, _, rfl, rfl, ⟨_, _, rfl, rfl, rfl⟩⟩⟩⟩⟩⟩
set_option maxRecDepth 100000 in
theorem nw_Wt_37 : rn_Nw "WeightedTrees" 37 5 10 [.null, .null, .null, .null, .null, .null, .null, .int 0, .int 0, .null] := ⟨_, _, _, cl_Gr, (rn_in 126 rfl rfl), (rn_in 127 rfl rfl), (rn_in 6 rfl rfl), by decide +kernel, fun _ => ⟨_, _, rfl, rfl, ⟨_, _, rfl, rfl, ⟨_, _, rfl, rfl, ⟨_, _, rfl, rfl, ⟨_, _, rfl, rfl, ⟨_, _, rfl, rfl, ⟨_, _, rfl, rfl, ⟨_, _, rfl, rfl, ⟨_, _, rfl, rfl, ⟨_, _, rfl, rfl, rfl⟩⟩⟩⟩⟩⟩⟩⟩⟩⟩⟩
end
section
abbrev tX : Type := Int32
abbrev tD : Type := (Nat → Int32) × Int32
def D_characters (d9 : tD) : Nat → Int32 := d9.1
def D_length (d9 : tD) : Int32 := d9.2
abbrev tC : Type := (Nat → Int64) × (Nat → Int32) × (Nat → Int32) × (Nat → Int32) × (Nat → Int32) × (Nat → Int32) × Int32 × (Nat → Nat → Int64) × (Nat → Nat → Int32) × (Nat → Nat → Int32)
def C_sums (c9 : tC) : Nat → Int64 := c9.1
def C_costs (c9 : tC) : Nat → Int32 := c9.2.1
def C_rules (c9 : tC) : Nat → Int32 := c9.2.2.1
def C_sizes (c9 : tC) : Nat → Int32 := c9.2.2.2.1
def C_lengths (c9 : tC) : Nat → Int32 := c9.2.2.2.2.1
def C_letters (c9 : tC) : Nat → Int32 := c9.2.2.2.2.2.1
def C_textLength (c9 : tC) : Int32 := c9.2.2.2.2.2.2.1
def C_restSums (c9 : tC) : Nat → Nat → Int64 := c9.2.2.2.2.2.2.2.1
def C_restCosts (c9 : tC) : Nat → Nat → Int32 := c9.2.2.2.2.2.2.2.2.1
def C_restLengths (c9 : tC) : Nat → Nat → Int32 := c9.2.2.2.2.2.2.2.2.2
abbrev tU : Type := Nat → Int64
abbrev tT : Type := (Nat → Int32) × (Nat → Int32) × (Nat → Int32) × (Nat → Int32) × Int32
def T_rules (t9 : tT) : Nat → Int32 := t9.1
def T_starts (t9 : tT) : Nat → Int32 := t9.2.1
def T_ends (t9 : tT) : Nat → Int32 := t9.2.2.1
def T_symbols (t9 : tT) : Nat → Int32 := t9.2.2.2.1
def T_nodeCount (t9 : tT) : Int32 := t9.2.2.2.2
abbrev tG : Type := (Nat → Int32) × (Nat → Int32) × (Nat → Int32) × (Nat → Int64) × (Nat → Int32) × (Nat → Int32) × (Nat → Int32) × Int32 × Int32 × (Nat → Int32)
def G_heads (g9 : tG) : Nat → Int32 := g9.1
def G_bodies (g9 : tG) : Nat → Int32 := g9.2.1
def G_bodyLengths (g9 : tG) : Nat → Int32 := g9.2.2.1
def G_weights (g9 : tG) : Nat → Int64 := g9.2.2.2.1
def G_costs (g9 : tG) : Nat → Int32 := g9.2.2.2.2.1
def G_capitals (g9 : tG) : Nat → Int32 := g9.2.2.2.2.2.1
def G_order (g9 : tG) : Nat → Int32 := g9.2.2.2.2.2.2.1
def G_ruleCount (g9 : tG) : Int32 := g9.2.2.2.2.2.2.2.1
def G_nonterminalCount (g9 : tG) : Int32 := g9.2.2.2.2.2.2.2.2.1
def G_reached (g9 : tG) : Nat → Int32 := g9.2.2.2.2.2.2.2.2.2
abbrev tM : Type := Int32 × (Nat → Int32) × Int32 × (Nat → Int32) × (Nat → Int32) × Int32 × Int32 × Int32 × Int32 × (Nat → Int32) × (Nat → Int32) × (Nat → Int32) × (Nat → Int64) × (Nat → Int32) × Int32 × (Nat → Int32) × Int32 × Int32 × (Nat → Int32) × (Nat → Int64) × (Nat → Int32) × (Nat → Int64) × (Nat → Int32) × (Nat → Int64) × (Nat → Int64) × (Nat → Int64) × (Nat → Int32) × Int32 × (Nat → Int32) × (Nat → Int32) × (Nat → Int32) × (Nat → Int32) × Int32 × Int32 × Int32
def M_code (m9 : tM) : Int32 := m9.1
def M_draft (m9 : tM) : Nat → Int32 := m9.2.1
def M_size (m9 : tM) : Int32 := m9.2.2.1
def M_src (m9 : tM) : Nat → Int32 := m9.2.2.2.1
def M_kept (m9 : tM) : Nat → Int32 := m9.2.2.2.2.1
def M_keptSize (m9 : tM) : Int32 := m9.2.2.2.2.2.1
def M_loaded (m9 : tM) : Int32 := m9.2.2.2.2.2.2.1
def M_wrongLine (m9 : tM) : Int32 := m9.2.2.2.2.2.2.2.1
def M_rules (m9 : tM) : Int32 := m9.2.2.2.2.2.2.2.2.1
def M_heads (m9 : tM) : Nat → Int32 := m9.2.2.2.2.2.2.2.2.2.1
def M_lengths (m9 : tM) : Nat → Int32 := m9.2.2.2.2.2.2.2.2.2.2.1
def M_bodies (m9 : tM) : Nat → Int32 := m9.2.2.2.2.2.2.2.2.2.2.2.1
def M_weights (m9 : tM) : Nat → Int64 := m9.2.2.2.2.2.2.2.2.2.2.2.2.1
def M_costs (m9 : tM) : Nat → Int32 := m9.2.2.2.2.2.2.2.2.2.2.2.2.2.1
def M_symbols (m9 : tM) : Int32 := m9.2.2.2.2.2.2.2.2.2.2.2.2.2.2.1
def M_names (m9 : tM) : Nat → Int32 := m9.2.2.2.2.2.2.2.2.2.2.2.2.2.2.2.1
def M_hasText (m9 : tM) : Int32 := m9.2.2.2.2.2.2.2.2.2.2.2.2.2.2.2.2.1
def M_letters (m9 : tM) : Int32 := m9.2.2.2.2.2.2.2.2.2.2.2.2.2.2.2.2.2.1
def M_text (m9 : tM) : Nat → Int32 := m9.2.2.2.2.2.2.2.2.2.2.2.2.2.2.2.2.2.2.1
def M_emptySum (m9 : tM) : Nat → Int64 := m9.2.2.2.2.2.2.2.2.2.2.2.2.2.2.2.2.2.2.2.1
def M_emptyCost (m9 : tM) : Nat → Int32 := m9.2.2.2.2.2.2.2.2.2.2.2.2.2.2.2.2.2.2.2.2.1
def M_sums (m9 : tM) : Nat → Int64 := m9.2.2.2.2.2.2.2.2.2.2.2.2.2.2.2.2.2.2.2.2.2.1
def M_least (m9 : tM) : Nat → Int32 := m9.2.2.2.2.2.2.2.2.2.2.2.2.2.2.2.2.2.2.2.2.2.2.1
def M_units (m9 : tM) : Nat → Int64 := m9.2.2.2.2.2.2.2.2.2.2.2.2.2.2.2.2.2.2.2.2.2.2.2.1
def M_upTo (m9 : tM) : Nat → Int64 := m9.2.2.2.2.2.2.2.2.2.2.2.2.2.2.2.2.2.2.2.2.2.2.2.2.1
def M_upToNext (m9 : tM) : Nat → Int64 := m9.2.2.2.2.2.2.2.2.2.2.2.2.2.2.2.2.2.2.2.2.2.2.2.2.2.1
def M_rest (m9 : tM) : Nat → Int32 := m9.2.2.2.2.2.2.2.2.2.2.2.2.2.2.2.2.2.2.2.2.2.2.2.2.2.2.1
def M_nodes (m9 : tM) : Int32 := m9.2.2.2.2.2.2.2.2.2.2.2.2.2.2.2.2.2.2.2.2.2.2.2.2.2.2.2.1
def M_nodeRule (m9 : tM) : Nat → Int32 := m9.2.2.2.2.2.2.2.2.2.2.2.2.2.2.2.2.2.2.2.2.2.2.2.2.2.2.2.2.1
def M_nodeFrom (m9 : tM) : Nat → Int32 := m9.2.2.2.2.2.2.2.2.2.2.2.2.2.2.2.2.2.2.2.2.2.2.2.2.2.2.2.2.2.1
def M_nodeTo (m9 : tM) : Nat → Int32 := m9.2.2.2.2.2.2.2.2.2.2.2.2.2.2.2.2.2.2.2.2.2.2.2.2.2.2.2.2.2.2.1
def M_waits (m9 : tM) : Nat → Int32 := m9.2.2.2.2.2.2.2.2.2.2.2.2.2.2.2.2.2.2.2.2.2.2.2.2.2.2.2.2.2.2.2.1
def M_at (m9 : tM) : Int32 := m9.2.2.2.2.2.2.2.2.2.2.2.2.2.2.2.2.2.2.2.2.2.2.2.2.2.2.2.2.2.2.2.2.1
def M_end (m9 : tM) : Int32 := m9.2.2.2.2.2.2.2.2.2.2.2.2.2.2.2.2.2.2.2.2.2.2.2.2.2.2.2.2.2.2.2.2.2.1
def M_value (m9 : tM) : Int32 := m9.2.2.2.2.2.2.2.2.2.2.2.2.2.2.2.2.2.2.2.2.2.2.2.2.2.2.2.2.2.2.2.2.2.2
abbrev tO : Type := Nat → Int64
abbrev tR : Type := Int32 × Int32
def R_at (r9 : tR) : Int32 := r9.1
def R_end (r9 : tR) : Int32 := r9.2
def emb (g1 g2 : Nat) (x : tX) (d : tD) (c : tC) (u : tU) (t : tT) (a : tG) (b : tG) (m : tM) (o : tO) (E : List rn_C) : List rn_C := rn_s ::
  rn_o 0 [.ref 2, .ref 4, .ref 28, .ref 30, .ref g1, .ref g2, .int (x)] ::
  rn_o 1 [.ref 3, .int (D_length d)] ::
  rn_i .char 300 (D_characters d) ::
  rn_o 2 [.ref 5, .ref 6, .ref 7, .ref 8, .ref 9, .ref 10, .int (C_textLength c), .ref 11, .ref 17, .ref 23] ::
  rn_l 390 (C_sums c) ::
  rn_i .int 390 (C_costs c) ::
  rn_i .int 390 (C_rules c) ::
  rn_i .int 390 (C_sizes c) ::
  rn_i .int 390 (C_lengths c) ::
  rn_i .char 8 (C_letters c) ::
  rn_q (.array .long) [some 12, some 13, some 14, some 15, some 16] ::
  rn_l 9 (C_restSums c 0) ::
  rn_l 9 (C_restSums c 1) ::
  rn_l 9 (C_restSums c 2) ::
  rn_l 9 (C_restSums c 3) ::
  rn_l 9 (C_restSums c 4) ::
  rn_q (.array .int) [some 18, some 19, some 20, some 21, some 22] ::
  rn_i .int 9 (C_restCosts c 0) ::
  rn_i .int 9 (C_restCosts c 1) ::
  rn_i .int 9 (C_restCosts c 2) ::
  rn_i .int 9 (C_restCosts c 3) ::
  rn_i .int 9 (C_restCosts c 4) ::
  rn_q (.array .int) [some 24, some 25, some 26, some 27] ::
  rn_i .int 9 (C_restLengths c 0) ::
  rn_i .int 9 (C_restLengths c 1) ::
  rn_i .int 9 (C_restLengths c 2) ::
  rn_i .int 9 (C_restLengths c 3) ::
  rn_o 3 [.ref 29] ::
  rn_l 36 (u) ::
  rn_o 4 [.ref 31, .ref 32, .ref 33, .ref 34, .int (T_nodeCount t)] ::
  rn_i .int 100 (T_rules t) ::
  rn_i .int 100 (T_starts t) ::
  rn_i .int 100 (T_ends t) ::
  rn_i .int 100 (T_symbols t) ::
  rn_o 5 [.ref 36, .ref 37, .ref 38, .ref 39, .ref 40, .ref 41, .ref 42, .int (G_ruleCount a), .int (G_nonterminalCount a), .ref 43] ::
  rn_i .int 12 (G_heads a) ::
  rn_i .int 48 (G_bodies a) ::
  rn_i .int 12 (G_bodyLengths a) ::
  rn_l 12 (G_weights a) ::
  rn_i .int 12 (G_costs a) ::
  rn_i .int 6 (G_capitals a) ::
  rn_i .int 6 (G_order a) ::
  rn_i .int 6 (G_reached a) ::
  rn_o 5 [.ref 45, .ref 46, .ref 47, .ref 48, .ref 49, .ref 50, .ref 51, .int (G_ruleCount b), .int (G_nonterminalCount b), .ref 52] ::
  rn_i .int 12 (G_heads b) ::
  rn_i .int 48 (G_bodies b) ::
  rn_i .int 12 (G_bodyLengths b) ::
  rn_l 12 (G_weights b) ::
  rn_i .int 12 (G_costs b) ::
  rn_i .int 6 (G_capitals b) ::
  rn_i .int 6 (G_order b) ::
  rn_i .int 6 (G_reached b) ::
  rn_o 7 [.int (M_code m), .ref 54, .int (M_size m), .ref 55, .ref 56, .int (M_keptSize m), .int (M_loaded m), .int (M_wrongLine m), .int (M_rules m), .ref 57, .ref 58, .ref 59, .ref 60, .ref 61, .int (M_symbols m), .ref 62, .int (M_hasText m), .int (M_letters m), .ref 63, .ref 64, .ref 65, .ref 66, .ref 67, .ref 68, .ref 69, .ref 70, .ref 71, .int (M_nodes m), .ref 72, .ref 73, .ref 74, .ref 75, .int (M_at m), .int (M_end m), .int (M_value m)] ::
  rn_i .int 300 (M_draft m) ::
  rn_i .int 300 (M_src m) ::
  rn_i .int 300 (M_kept m) ::
  rn_i .int 12 (M_heads m) ::
  rn_i .int 12 (M_lengths m) ::
  rn_i .int 48 (M_bodies m) ::
  rn_l 12 (M_weights m) ::
  rn_i .int 12 (M_costs m) ::
  rn_i .int 6 (M_names m) ::
  rn_i .int 8 (M_text m) ::
  rn_l 6 (M_emptySum m) ::
  rn_i .int 6 (M_emptyCost m) ::
  rn_l 486 (M_sums m) ::
  rn_i .int 486 (M_least m) ::
  rn_l 36 (M_units m) ::
  rn_l 10 (M_upTo m) ::
  rn_l 10 (M_upToNext m) ::
  rn_i .int 50 (M_rest m) ::
  rn_i .int 100 (M_nodeRule m) ::
  rn_i .int 100 (M_nodeFrom m) ::
  rn_i .int 100 (M_nodeTo m) ::
  rn_i .int 1500 (M_waits m) ::
  rn_l 1 (o) :: E
def rd_cell (r : tR) : rn_C := rn_o 6 [.ref 2, .ref 44, .int (R_at r), .int (R_end r)]
theorem aq_restSums {i : Int32} {j : Nat} (h : aI 5 i = some j) : [some 12, some 13, some 14, some 15, some 16][i.toNatClampNeg]? = some (some (12 + j)) := by
  obtain ⟨-, e, h⟩ := aI_some h
  rw [e]
  rcases j with _ | j
  · rfl
  rcases j with _ | j
  · rfl
  rcases j with _ | j
  · rfl
  rcases j with _ | j
  · rfl
  rcases j with _ | j
  · rfl
  omega
theorem ag_restSums {g1 g2 : Nat} {x : tX} {d : tD} {c : tC} {u : tU} {t : tT} {a : tG} {b : tG} {m : tM} {o : tO} {E : List rn_C} {i : Int32} {j : Nat} (h : aI 5 i = some j) : (emb g1 g2 x d c u t a b m o E)[12 + j]? = some (rn_l 9 (C_restSums c j)) := by
  obtain ⟨-, -, h⟩ := aI_some h
  rcases j with _ | j
  · rfl
  rcases j with _ | j
  · rfl
  rcases j with _ | j
  · rfl
  rcases j with _ | j
  · rfl
  rcases j with _ | j
  · rfl
  omega
theorem as_restSums {g1 g2 : Nat} {x : tX} {d : tD} {c : tC} {u : tU} {t : tT} {a : tG} {b : tG} {m : tM} {o : tO} {E : List rn_C} {i : Int32} {j : Nat} {f : Nat → Int64} (h : aI 5 i = some j) : (emb g1 g2 x d c u t a b m o E).set (12 + j) (rn_l 9 f) = emb g1 g2 x d (C_sums c, C_costs c, C_rules c, C_sizes c, C_lengths c, C_letters c, C_textLength c, up2 (C_restSums c) j f, C_restCosts c, C_restLengths c) u t a b m o E := by
  obtain ⟨-, -, h⟩ := aI_some h
  rcases j with _ | j
  · rfl
  rcases j with _ | j
  · rfl
  rcases j with _ | j
  · rfl
  rcases j with _ | j
  · rfl
  rcases j with _ | j
  · rfl
  omega
theorem aq_restCosts {i : Int32} {j : Nat} (h : aI 5 i = some j) : [some 18, some 19, some 20, some 21, some 22][i.toNatClampNeg]? = some (some (18 + j)) := by
  obtain ⟨-, e, h⟩ := aI_some h
  rw [e]
  rcases j with _ | j
  · rfl
  rcases j with _ | j
  · rfl
  rcases j with _ | j
  · rfl
  rcases j with _ | j
  · rfl
  rcases j with _ | j
  · rfl
  omega
theorem ag_restCosts {g1 g2 : Nat} {x : tX} {d : tD} {c : tC} {u : tU} {t : tT} {a : tG} {b : tG} {m : tM} {o : tO} {E : List rn_C} {i : Int32} {j : Nat} (h : aI 5 i = some j) : (emb g1 g2 x d c u t a b m o E)[18 + j]? = some (rn_i .int 9 (C_restCosts c j)) := by
  obtain ⟨-, -, h⟩ := aI_some h
  rcases j with _ | j
  · rfl
  rcases j with _ | j
  · rfl
  rcases j with _ | j
  · rfl
  rcases j with _ | j
  · rfl
  rcases j with _ | j
  · rfl
  omega
theorem as_restCosts {g1 g2 : Nat} {x : tX} {d : tD} {c : tC} {u : tU} {t : tT} {a : tG} {b : tG} {m : tM} {o : tO} {E : List rn_C} {i : Int32} {j : Nat} {f : Nat → Int32} (h : aI 5 i = some j) : (emb g1 g2 x d c u t a b m o E).set (18 + j) (rn_i .int 9 f) = emb g1 g2 x d (C_sums c, C_costs c, C_rules c, C_sizes c, C_lengths c, C_letters c, C_textLength c, C_restSums c, up2 (C_restCosts c) j f, C_restLengths c) u t a b m o E := by
  obtain ⟨-, -, h⟩ := aI_some h
  rcases j with _ | j
  · rfl
  rcases j with _ | j
  · rfl
  rcases j with _ | j
  · rfl
  rcases j with _ | j
  · rfl
  rcases j with _ | j
  · rfl
  omega
theorem aq_restLengths {i : Int32} {j : Nat} (h : aI 4 i = some j) : [some 24, some 25, some 26, some 27][i.toNatClampNeg]? = some (some (24 + j)) := by
  obtain ⟨-, e, h⟩ := aI_some h
  rw [e]
  rcases j with _ | j
  · rfl
  rcases j with _ | j
  · rfl
  rcases j with _ | j
  · rfl
  rcases j with _ | j
  · rfl
  omega
theorem ag_restLengths {g1 g2 : Nat} {x : tX} {d : tD} {c : tC} {u : tU} {t : tT} {a : tG} {b : tG} {m : tM} {o : tO} {E : List rn_C} {i : Int32} {j : Nat} (h : aI 4 i = some j) : (emb g1 g2 x d c u t a b m o E)[24 + j]? = some (rn_i .int 9 (C_restLengths c j)) := by
  obtain ⟨-, -, h⟩ := aI_some h
  rcases j with _ | j
  · rfl
  rcases j with _ | j
  · rfl
  rcases j with _ | j
  · rfl
  rcases j with _ | j
  · rfl
  omega
theorem as_restLengths {g1 g2 : Nat} {x : tX} {d : tD} {c : tC} {u : tU} {t : tT} {a : tG} {b : tG} {m : tM} {o : tO} {E : List rn_C} {i : Int32} {j : Nat} {f : Nat → Int32} (h : aI 4 i = some j) : (emb g1 g2 x d c u t a b m o E).set (24 + j) (rn_i .int 9 f) = emb g1 g2 x d (C_sums c, C_costs c, C_rules c, C_sizes c, C_lengths c, C_letters c, C_textLength c, C_restSums c, C_restCosts c, up2 (C_restLengths c) j f) u t a b m o E := by
  obtain ⟨-, -, h⟩ := aI_some h
  rcases j with _ | j
  · rfl
  rcases j with _ | j
  · rfl
  rcases j with _ | j
  · rfl
  rcases j with _ | j
  · rfl
  omega
def M_put_code (m : tM) (v : Int32) : tM := (v, M_draft m, M_size m, M_src m, M_kept m, M_keptSize m, M_loaded m, M_wrongLine m, M_rules m, M_heads m, M_lengths m, M_bodies m, M_weights m, M_costs m, M_symbols m, M_names m, M_hasText m, M_letters m, M_text m, M_emptySum m, M_emptyCost m, M_sums m, M_least m, M_units m, M_upTo m, M_upToNext m, M_rest m, M_nodes m, M_nodeRule m, M_nodeFrom m, M_nodeTo m, M_waits m, M_at m, M_end m, M_value m)
theorem sm_code {g1 g2 : Nat} {x : tX} {d : tD} {c : tC} {u : tU} {t : tT} {a : tG} {b : tG} {m : tM} {o : tO} {E : List rn_C} {v : Int32} : (emb g1 g2 x d c u t a b m o E).set 53 (rn_o 7 (List.set [.int (M_code m), .ref 54, .int (M_size m), .ref 55, .ref 56, .int (M_keptSize m), .int (M_loaded m), .int (M_wrongLine m), .int (M_rules m), .ref 57, .ref 58, .ref 59, .ref 60, .ref 61, .int (M_symbols m), .ref 62, .int (M_hasText m), .int (M_letters m), .ref 63, .ref 64, .ref 65, .ref 66, .ref 67, .ref 68, .ref 69, .ref 70, .ref 71, .int (M_nodes m), .ref 72, .ref 73, .ref 74, .ref 75, .int (M_at m), .int (M_end m), .int (M_value m)] 0 (.int v))) = emb g1 g2 x d c u t a b (M_put_code m v) o E := rfl
def M_put_draft (m : tM) (v : Nat → Int32) : tM := (M_code m, v, M_size m, M_src m, M_kept m, M_keptSize m, M_loaded m, M_wrongLine m, M_rules m, M_heads m, M_lengths m, M_bodies m, M_weights m, M_costs m, M_symbols m, M_names m, M_hasText m, M_letters m, M_text m, M_emptySum m, M_emptyCost m, M_sums m, M_least m, M_units m, M_upTo m, M_upToNext m, M_rest m, M_nodes m, M_nodeRule m, M_nodeFrom m, M_nodeTo m, M_waits m, M_at m, M_end m, M_value m)
theorem sm_draft {g1 g2 : Nat} {x : tX} {d : tD} {c : tC} {u : tU} {t : tT} {a : tG} {b : tG} {m : tM} {o : tO} {E : List rn_C} {v : Nat → Int32} : (emb g1 g2 x d c u t a b m o E).set 54 (rn_i .int 300 v) = emb g1 g2 x d c u t a b (M_put_draft m v) o E := rfl
def M_put_size (m : tM) (v : Int32) : tM := (M_code m, M_draft m, v, M_src m, M_kept m, M_keptSize m, M_loaded m, M_wrongLine m, M_rules m, M_heads m, M_lengths m, M_bodies m, M_weights m, M_costs m, M_symbols m, M_names m, M_hasText m, M_letters m, M_text m, M_emptySum m, M_emptyCost m, M_sums m, M_least m, M_units m, M_upTo m, M_upToNext m, M_rest m, M_nodes m, M_nodeRule m, M_nodeFrom m, M_nodeTo m, M_waits m, M_at m, M_end m, M_value m)
theorem sm_size {g1 g2 : Nat} {x : tX} {d : tD} {c : tC} {u : tU} {t : tT} {a : tG} {b : tG} {m : tM} {o : tO} {E : List rn_C} {v : Int32} : (emb g1 g2 x d c u t a b m o E).set 53 (rn_o 7 (List.set [.int (M_code m), .ref 54, .int (M_size m), .ref 55, .ref 56, .int (M_keptSize m), .int (M_loaded m), .int (M_wrongLine m), .int (M_rules m), .ref 57, .ref 58, .ref 59, .ref 60, .ref 61, .int (M_symbols m), .ref 62, .int (M_hasText m), .int (M_letters m), .ref 63, .ref 64, .ref 65, .ref 66, .ref 67, .ref 68, .ref 69, .ref 70, .ref 71, .int (M_nodes m), .ref 72, .ref 73, .ref 74, .ref 75, .int (M_at m), .int (M_end m), .int (M_value m)] 2 (.int v))) = emb g1 g2 x d c u t a b (M_put_size m v) o E := rfl
def M_put_src (m : tM) (v : Nat → Int32) : tM := (M_code m, M_draft m, M_size m, v, M_kept m, M_keptSize m, M_loaded m, M_wrongLine m, M_rules m, M_heads m, M_lengths m, M_bodies m, M_weights m, M_costs m, M_symbols m, M_names m, M_hasText m, M_letters m, M_text m, M_emptySum m, M_emptyCost m, M_sums m, M_least m, M_units m, M_upTo m, M_upToNext m, M_rest m, M_nodes m, M_nodeRule m, M_nodeFrom m, M_nodeTo m, M_waits m, M_at m, M_end m, M_value m)
theorem sm_src {g1 g2 : Nat} {x : tX} {d : tD} {c : tC} {u : tU} {t : tT} {a : tG} {b : tG} {m : tM} {o : tO} {E : List rn_C} {v : Nat → Int32} : (emb g1 g2 x d c u t a b m o E).set 55 (rn_i .int 300 v) = emb g1 g2 x d c u t a b (M_put_src m v) o E := rfl
def M_put_kept (m : tM) (v : Nat → Int32) : tM := (M_code m, M_draft m, M_size m, M_src m, v, M_keptSize m, M_loaded m, M_wrongLine m, M_rules m, M_heads m, M_lengths m, M_bodies m, M_weights m, M_costs m, M_symbols m, M_names m, M_hasText m, M_letters m, M_text m, M_emptySum m, M_emptyCost m, M_sums m, M_least m, M_units m, M_upTo m, M_upToNext m, M_rest m, M_nodes m, M_nodeRule m, M_nodeFrom m, M_nodeTo m, M_waits m, M_at m, M_end m, M_value m)
theorem sm_kept {g1 g2 : Nat} {x : tX} {d : tD} {c : tC} {u : tU} {t : tT} {a : tG} {b : tG} {m : tM} {o : tO} {E : List rn_C} {v : Nat → Int32} : (emb g1 g2 x d c u t a b m o E).set 56 (rn_i .int 300 v) = emb g1 g2 x d c u t a b (M_put_kept m v) o E := rfl
def M_put_keptSize (m : tM) (v : Int32) : tM := (M_code m, M_draft m, M_size m, M_src m, M_kept m, v, M_loaded m, M_wrongLine m, M_rules m, M_heads m, M_lengths m, M_bodies m, M_weights m, M_costs m, M_symbols m, M_names m, M_hasText m, M_letters m, M_text m, M_emptySum m, M_emptyCost m, M_sums m, M_least m, M_units m, M_upTo m, M_upToNext m, M_rest m, M_nodes m, M_nodeRule m, M_nodeFrom m, M_nodeTo m, M_waits m, M_at m, M_end m, M_value m)
theorem sm_keptSize {g1 g2 : Nat} {x : tX} {d : tD} {c : tC} {u : tU} {t : tT} {a : tG} {b : tG} {m : tM} {o : tO} {E : List rn_C} {v : Int32} : (emb g1 g2 x d c u t a b m o E).set 53 (rn_o 7 (List.set [.int (M_code m), .ref 54, .int (M_size m), .ref 55, .ref 56, .int (M_keptSize m), .int (M_loaded m), .int (M_wrongLine m), .int (M_rules m), .ref 57, .ref 58, .ref 59, .ref 60, .ref 61, .int (M_symbols m), .ref 62, .int (M_hasText m), .int (M_letters m), .ref 63, .ref 64, .ref 65, .ref 66, .ref 67, .ref 68, .ref 69, .ref 70, .ref 71, .int (M_nodes m), .ref 72, .ref 73, .ref 74, .ref 75, .int (M_at m), .int (M_end m), .int (M_value m)] 5 (.int v))) = emb g1 g2 x d c u t a b (M_put_keptSize m v) o E := rfl
def M_put_loaded (m : tM) (v : Int32) : tM := (M_code m, M_draft m, M_size m, M_src m, M_kept m, M_keptSize m, v, M_wrongLine m, M_rules m, M_heads m, M_lengths m, M_bodies m, M_weights m, M_costs m, M_symbols m, M_names m, M_hasText m, M_letters m, M_text m, M_emptySum m, M_emptyCost m, M_sums m, M_least m, M_units m, M_upTo m, M_upToNext m, M_rest m, M_nodes m, M_nodeRule m, M_nodeFrom m, M_nodeTo m, M_waits m, M_at m, M_end m, M_value m)
theorem sm_loaded {g1 g2 : Nat} {x : tX} {d : tD} {c : tC} {u : tU} {t : tT} {a : tG} {b : tG} {m : tM} {o : tO} {E : List rn_C} {v : Int32} : (emb g1 g2 x d c u t a b m o E).set 53 (rn_o 7 (List.set [.int (M_code m), .ref 54, .int (M_size m), .ref 55, .ref 56, .int (M_keptSize m), .int (M_loaded m), .int (M_wrongLine m), .int (M_rules m), .ref 57, .ref 58, .ref 59, .ref 60, .ref 61, .int (M_symbols m), .ref 62, .int (M_hasText m), .int (M_letters m), .ref 63, .ref 64, .ref 65, .ref 66, .ref 67, .ref 68, .ref 69, .ref 70, .ref 71, .int (M_nodes m), .ref 72, .ref 73, .ref 74, .ref 75, .int (M_at m), .int (M_end m), .int (M_value m)] 6 (.int v))) = emb g1 g2 x d c u t a b (M_put_loaded m v) o E := rfl
def M_put_wrongLine (m : tM) (v : Int32) : tM := (M_code m, M_draft m, M_size m, M_src m, M_kept m, M_keptSize m, M_loaded m, v, M_rules m, M_heads m, M_lengths m, M_bodies m, M_weights m, M_costs m, M_symbols m, M_names m, M_hasText m, M_letters m, M_text m, M_emptySum m, M_emptyCost m, M_sums m, M_least m, M_units m, M_upTo m, M_upToNext m, M_rest m, M_nodes m, M_nodeRule m, M_nodeFrom m, M_nodeTo m, M_waits m, M_at m, M_end m, M_value m)
theorem sm_wrongLine {g1 g2 : Nat} {x : tX} {d : tD} {c : tC} {u : tU} {t : tT} {a : tG} {b : tG} {m : tM} {o : tO} {E : List rn_C} {v : Int32} : (emb g1 g2 x d c u t a b m o E).set 53 (rn_o 7 (List.set [.int (M_code m), .ref 54, .int (M_size m), .ref 55, .ref 56, .int (M_keptSize m), .int (M_loaded m), .int (M_wrongLine m), .int (M_rules m), .ref 57, .ref 58, .ref 59, .ref 60, .ref 61, .int (M_symbols m), .ref 62, .int (M_hasText m), .int (M_letters m), .ref 63, .ref 64, .ref 65, .ref 66, .ref 67, .ref 68, .ref 69, .ref 70, .ref 71, .int (M_nodes m), .ref 72, .ref 73, .ref 74, .ref 75, .int (M_at m), .int (M_end m), .int (M_value m)] 7 (.int v))) = emb g1 g2 x d c u t a b (M_put_wrongLine m v) o E := rfl
def M_put_rules (m : tM) (v : Int32) : tM := (M_code m, M_draft m, M_size m, M_src m, M_kept m, M_keptSize m, M_loaded m, M_wrongLine m, v, M_heads m, M_lengths m, M_bodies m, M_weights m, M_costs m, M_symbols m, M_names m, M_hasText m, M_letters m, M_text m, M_emptySum m, M_emptyCost m, M_sums m, M_least m, M_units m, M_upTo m, M_upToNext m, M_rest m, M_nodes m, M_nodeRule m, M_nodeFrom m, M_nodeTo m, M_waits m, M_at m, M_end m, M_value m)
theorem sm_rules {g1 g2 : Nat} {x : tX} {d : tD} {c : tC} {u : tU} {t : tT} {a : tG} {b : tG} {m : tM} {o : tO} {E : List rn_C} {v : Int32} : (emb g1 g2 x d c u t a b m o E).set 53 (rn_o 7 (List.set [.int (M_code m), .ref 54, .int (M_size m), .ref 55, .ref 56, .int (M_keptSize m), .int (M_loaded m), .int (M_wrongLine m), .int (M_rules m), .ref 57, .ref 58, .ref 59, .ref 60, .ref 61, .int (M_symbols m), .ref 62, .int (M_hasText m), .int (M_letters m), .ref 63, .ref 64, .ref 65, .ref 66, .ref 67, .ref 68, .ref 69, .ref 70, .ref 71, .int (M_nodes m), .ref 72, .ref 73, .ref 74, .ref 75, .int (M_at m), .int (M_end m), .int (M_value m)] 8 (.int v))) = emb g1 g2 x d c u t a b (M_put_rules m v) o E := rfl
def M_put_heads (m : tM) (v : Nat → Int32) : tM := (M_code m, M_draft m, M_size m, M_src m, M_kept m, M_keptSize m, M_loaded m, M_wrongLine m, M_rules m, v, M_lengths m, M_bodies m, M_weights m, M_costs m, M_symbols m, M_names m, M_hasText m, M_letters m, M_text m, M_emptySum m, M_emptyCost m, M_sums m, M_least m, M_units m, M_upTo m, M_upToNext m, M_rest m, M_nodes m, M_nodeRule m, M_nodeFrom m, M_nodeTo m, M_waits m, M_at m, M_end m, M_value m)
theorem sm_heads {g1 g2 : Nat} {x : tX} {d : tD} {c : tC} {u : tU} {t : tT} {a : tG} {b : tG} {m : tM} {o : tO} {E : List rn_C} {v : Nat → Int32} : (emb g1 g2 x d c u t a b m o E).set 57 (rn_i .int 12 v) = emb g1 g2 x d c u t a b (M_put_heads m v) o E := rfl
def M_put_lengths (m : tM) (v : Nat → Int32) : tM := (M_code m, M_draft m, M_size m, M_src m, M_kept m, M_keptSize m, M_loaded m, M_wrongLine m, M_rules m, M_heads m, v, M_bodies m, M_weights m, M_costs m, M_symbols m, M_names m, M_hasText m, M_letters m, M_text m, M_emptySum m, M_emptyCost m, M_sums m, M_least m, M_units m, M_upTo m, M_upToNext m, M_rest m, M_nodes m, M_nodeRule m, M_nodeFrom m, M_nodeTo m, M_waits m, M_at m, M_end m, M_value m)
theorem sm_lengths {g1 g2 : Nat} {x : tX} {d : tD} {c : tC} {u : tU} {t : tT} {a : tG} {b : tG} {m : tM} {o : tO} {E : List rn_C} {v : Nat → Int32} : (emb g1 g2 x d c u t a b m o E).set 58 (rn_i .int 12 v) = emb g1 g2 x d c u t a b (M_put_lengths m v) o E := rfl
def M_put_bodies (m : tM) (v : Nat → Int32) : tM := (M_code m, M_draft m, M_size m, M_src m, M_kept m, M_keptSize m, M_loaded m, M_wrongLine m, M_rules m, M_heads m, M_lengths m, v, M_weights m, M_costs m, M_symbols m, M_names m, M_hasText m, M_letters m, M_text m, M_emptySum m, M_emptyCost m, M_sums m, M_least m, M_units m, M_upTo m, M_upToNext m, M_rest m, M_nodes m, M_nodeRule m, M_nodeFrom m, M_nodeTo m, M_waits m, M_at m, M_end m, M_value m)
theorem sm_bodies {g1 g2 : Nat} {x : tX} {d : tD} {c : tC} {u : tU} {t : tT} {a : tG} {b : tG} {m : tM} {o : tO} {E : List rn_C} {v : Nat → Int32} : (emb g1 g2 x d c u t a b m o E).set 59 (rn_i .int 48 v) = emb g1 g2 x d c u t a b (M_put_bodies m v) o E := rfl
def M_put_weights (m : tM) (v : Nat → Int64) : tM := (M_code m, M_draft m, M_size m, M_src m, M_kept m, M_keptSize m, M_loaded m, M_wrongLine m, M_rules m, M_heads m, M_lengths m, M_bodies m, v, M_costs m, M_symbols m, M_names m, M_hasText m, M_letters m, M_text m, M_emptySum m, M_emptyCost m, M_sums m, M_least m, M_units m, M_upTo m, M_upToNext m, M_rest m, M_nodes m, M_nodeRule m, M_nodeFrom m, M_nodeTo m, M_waits m, M_at m, M_end m, M_value m)
theorem sm_weights {g1 g2 : Nat} {x : tX} {d : tD} {c : tC} {u : tU} {t : tT} {a : tG} {b : tG} {m : tM} {o : tO} {E : List rn_C} {v : Nat → Int64} : (emb g1 g2 x d c u t a b m o E).set 60 (rn_l 12 v) = emb g1 g2 x d c u t a b (M_put_weights m v) o E := rfl
def M_put_costs (m : tM) (v : Nat → Int32) : tM := (M_code m, M_draft m, M_size m, M_src m, M_kept m, M_keptSize m, M_loaded m, M_wrongLine m, M_rules m, M_heads m, M_lengths m, M_bodies m, M_weights m, v, M_symbols m, M_names m, M_hasText m, M_letters m, M_text m, M_emptySum m, M_emptyCost m, M_sums m, M_least m, M_units m, M_upTo m, M_upToNext m, M_rest m, M_nodes m, M_nodeRule m, M_nodeFrom m, M_nodeTo m, M_waits m, M_at m, M_end m, M_value m)
theorem sm_costs {g1 g2 : Nat} {x : tX} {d : tD} {c : tC} {u : tU} {t : tT} {a : tG} {b : tG} {m : tM} {o : tO} {E : List rn_C} {v : Nat → Int32} : (emb g1 g2 x d c u t a b m o E).set 61 (rn_i .int 12 v) = emb g1 g2 x d c u t a b (M_put_costs m v) o E := rfl
def M_put_symbols (m : tM) (v : Int32) : tM := (M_code m, M_draft m, M_size m, M_src m, M_kept m, M_keptSize m, M_loaded m, M_wrongLine m, M_rules m, M_heads m, M_lengths m, M_bodies m, M_weights m, M_costs m, v, M_names m, M_hasText m, M_letters m, M_text m, M_emptySum m, M_emptyCost m, M_sums m, M_least m, M_units m, M_upTo m, M_upToNext m, M_rest m, M_nodes m, M_nodeRule m, M_nodeFrom m, M_nodeTo m, M_waits m, M_at m, M_end m, M_value m)
theorem sm_symbols {g1 g2 : Nat} {x : tX} {d : tD} {c : tC} {u : tU} {t : tT} {a : tG} {b : tG} {m : tM} {o : tO} {E : List rn_C} {v : Int32} : (emb g1 g2 x d c u t a b m o E).set 53 (rn_o 7 (List.set [.int (M_code m), .ref 54, .int (M_size m), .ref 55, .ref 56, .int (M_keptSize m), .int (M_loaded m), .int (M_wrongLine m), .int (M_rules m), .ref 57, .ref 58, .ref 59, .ref 60, .ref 61, .int (M_symbols m), .ref 62, .int (M_hasText m), .int (M_letters m), .ref 63, .ref 64, .ref 65, .ref 66, .ref 67, .ref 68, .ref 69, .ref 70, .ref 71, .int (M_nodes m), .ref 72, .ref 73, .ref 74, .ref 75, .int (M_at m), .int (M_end m), .int (M_value m)] 14 (.int v))) = emb g1 g2 x d c u t a b (M_put_symbols m v) o E := rfl
def M_put_names (m : tM) (v : Nat → Int32) : tM := (M_code m, M_draft m, M_size m, M_src m, M_kept m, M_keptSize m, M_loaded m, M_wrongLine m, M_rules m, M_heads m, M_lengths m, M_bodies m, M_weights m, M_costs m, M_symbols m, v, M_hasText m, M_letters m, M_text m, M_emptySum m, M_emptyCost m, M_sums m, M_least m, M_units m, M_upTo m, M_upToNext m, M_rest m, M_nodes m, M_nodeRule m, M_nodeFrom m, M_nodeTo m, M_waits m, M_at m, M_end m, M_value m)
theorem sm_names {g1 g2 : Nat} {x : tX} {d : tD} {c : tC} {u : tU} {t : tT} {a : tG} {b : tG} {m : tM} {o : tO} {E : List rn_C} {v : Nat → Int32} : (emb g1 g2 x d c u t a b m o E).set 62 (rn_i .int 6 v) = emb g1 g2 x d c u t a b (M_put_names m v) o E := rfl
def M_put_hasText (m : tM) (v : Int32) : tM := (M_code m, M_draft m, M_size m, M_src m, M_kept m, M_keptSize m, M_loaded m, M_wrongLine m, M_rules m, M_heads m, M_lengths m, M_bodies m, M_weights m, M_costs m, M_symbols m, M_names m, v, M_letters m, M_text m, M_emptySum m, M_emptyCost m, M_sums m, M_least m, M_units m, M_upTo m, M_upToNext m, M_rest m, M_nodes m, M_nodeRule m, M_nodeFrom m, M_nodeTo m, M_waits m, M_at m, M_end m, M_value m)
theorem sm_hasText {g1 g2 : Nat} {x : tX} {d : tD} {c : tC} {u : tU} {t : tT} {a : tG} {b : tG} {m : tM} {o : tO} {E : List rn_C} {v : Int32} : (emb g1 g2 x d c u t a b m o E).set 53 (rn_o 7 (List.set [.int (M_code m), .ref 54, .int (M_size m), .ref 55, .ref 56, .int (M_keptSize m), .int (M_loaded m), .int (M_wrongLine m), .int (M_rules m), .ref 57, .ref 58, .ref 59, .ref 60, .ref 61, .int (M_symbols m), .ref 62, .int (M_hasText m), .int (M_letters m), .ref 63, .ref 64, .ref 65, .ref 66, .ref 67, .ref 68, .ref 69, .ref 70, .ref 71, .int (M_nodes m), .ref 72, .ref 73, .ref 74, .ref 75, .int (M_at m), .int (M_end m), .int (M_value m)] 16 (.int v))) = emb g1 g2 x d c u t a b (M_put_hasText m v) o E := rfl
def M_put_letters (m : tM) (v : Int32) : tM := (M_code m, M_draft m, M_size m, M_src m, M_kept m, M_keptSize m, M_loaded m, M_wrongLine m, M_rules m, M_heads m, M_lengths m, M_bodies m, M_weights m, M_costs m, M_symbols m, M_names m, M_hasText m, v, M_text m, M_emptySum m, M_emptyCost m, M_sums m, M_least m, M_units m, M_upTo m, M_upToNext m, M_rest m, M_nodes m, M_nodeRule m, M_nodeFrom m, M_nodeTo m, M_waits m, M_at m, M_end m, M_value m)
theorem sm_letters {g1 g2 : Nat} {x : tX} {d : tD} {c : tC} {u : tU} {t : tT} {a : tG} {b : tG} {m : tM} {o : tO} {E : List rn_C} {v : Int32} : (emb g1 g2 x d c u t a b m o E).set 53 (rn_o 7 (List.set [.int (M_code m), .ref 54, .int (M_size m), .ref 55, .ref 56, .int (M_keptSize m), .int (M_loaded m), .int (M_wrongLine m), .int (M_rules m), .ref 57, .ref 58, .ref 59, .ref 60, .ref 61, .int (M_symbols m), .ref 62, .int (M_hasText m), .int (M_letters m), .ref 63, .ref 64, .ref 65, .ref 66, .ref 67, .ref 68, .ref 69, .ref 70, .ref 71, .int (M_nodes m), .ref 72, .ref 73, .ref 74, .ref 75, .int (M_at m), .int (M_end m), .int (M_value m)] 17 (.int v))) = emb g1 g2 x d c u t a b (M_put_letters m v) o E := rfl
def M_put_text (m : tM) (v : Nat → Int32) : tM := (M_code m, M_draft m, M_size m, M_src m, M_kept m, M_keptSize m, M_loaded m, M_wrongLine m, M_rules m, M_heads m, M_lengths m, M_bodies m, M_weights m, M_costs m, M_symbols m, M_names m, M_hasText m, M_letters m, v, M_emptySum m, M_emptyCost m, M_sums m, M_least m, M_units m, M_upTo m, M_upToNext m, M_rest m, M_nodes m, M_nodeRule m, M_nodeFrom m, M_nodeTo m, M_waits m, M_at m, M_end m, M_value m)
theorem sm_text {g1 g2 : Nat} {x : tX} {d : tD} {c : tC} {u : tU} {t : tT} {a : tG} {b : tG} {m : tM} {o : tO} {E : List rn_C} {v : Nat → Int32} : (emb g1 g2 x d c u t a b m o E).set 63 (rn_i .int 8 v) = emb g1 g2 x d c u t a b (M_put_text m v) o E := rfl
def M_put_emptySum (m : tM) (v : Nat → Int64) : tM := (M_code m, M_draft m, M_size m, M_src m, M_kept m, M_keptSize m, M_loaded m, M_wrongLine m, M_rules m, M_heads m, M_lengths m, M_bodies m, M_weights m, M_costs m, M_symbols m, M_names m, M_hasText m, M_letters m, M_text m, v, M_emptyCost m, M_sums m, M_least m, M_units m, M_upTo m, M_upToNext m, M_rest m, M_nodes m, M_nodeRule m, M_nodeFrom m, M_nodeTo m, M_waits m, M_at m, M_end m, M_value m)
theorem sm_emptySum {g1 g2 : Nat} {x : tX} {d : tD} {c : tC} {u : tU} {t : tT} {a : tG} {b : tG} {m : tM} {o : tO} {E : List rn_C} {v : Nat → Int64} : (emb g1 g2 x d c u t a b m o E).set 64 (rn_l 6 v) = emb g1 g2 x d c u t a b (M_put_emptySum m v) o E := rfl
def M_put_emptyCost (m : tM) (v : Nat → Int32) : tM := (M_code m, M_draft m, M_size m, M_src m, M_kept m, M_keptSize m, M_loaded m, M_wrongLine m, M_rules m, M_heads m, M_lengths m, M_bodies m, M_weights m, M_costs m, M_symbols m, M_names m, M_hasText m, M_letters m, M_text m, M_emptySum m, v, M_sums m, M_least m, M_units m, M_upTo m, M_upToNext m, M_rest m, M_nodes m, M_nodeRule m, M_nodeFrom m, M_nodeTo m, M_waits m, M_at m, M_end m, M_value m)
theorem sm_emptyCost {g1 g2 : Nat} {x : tX} {d : tD} {c : tC} {u : tU} {t : tT} {a : tG} {b : tG} {m : tM} {o : tO} {E : List rn_C} {v : Nat → Int32} : (emb g1 g2 x d c u t a b m o E).set 65 (rn_i .int 6 v) = emb g1 g2 x d c u t a b (M_put_emptyCost m v) o E := rfl
def M_put_sums (m : tM) (v : Nat → Int64) : tM := (M_code m, M_draft m, M_size m, M_src m, M_kept m, M_keptSize m, M_loaded m, M_wrongLine m, M_rules m, M_heads m, M_lengths m, M_bodies m, M_weights m, M_costs m, M_symbols m, M_names m, M_hasText m, M_letters m, M_text m, M_emptySum m, M_emptyCost m, v, M_least m, M_units m, M_upTo m, M_upToNext m, M_rest m, M_nodes m, M_nodeRule m, M_nodeFrom m, M_nodeTo m, M_waits m, M_at m, M_end m, M_value m)
theorem sm_sums {g1 g2 : Nat} {x : tX} {d : tD} {c : tC} {u : tU} {t : tT} {a : tG} {b : tG} {m : tM} {o : tO} {E : List rn_C} {v : Nat → Int64} : (emb g1 g2 x d c u t a b m o E).set 66 (rn_l 486 v) = emb g1 g2 x d c u t a b (M_put_sums m v) o E := rfl
def M_put_least (m : tM) (v : Nat → Int32) : tM := (M_code m, M_draft m, M_size m, M_src m, M_kept m, M_keptSize m, M_loaded m, M_wrongLine m, M_rules m, M_heads m, M_lengths m, M_bodies m, M_weights m, M_costs m, M_symbols m, M_names m, M_hasText m, M_letters m, M_text m, M_emptySum m, M_emptyCost m, M_sums m, v, M_units m, M_upTo m, M_upToNext m, M_rest m, M_nodes m, M_nodeRule m, M_nodeFrom m, M_nodeTo m, M_waits m, M_at m, M_end m, M_value m)
theorem sm_least {g1 g2 : Nat} {x : tX} {d : tD} {c : tC} {u : tU} {t : tT} {a : tG} {b : tG} {m : tM} {o : tO} {E : List rn_C} {v : Nat → Int32} : (emb g1 g2 x d c u t a b m o E).set 67 (rn_i .int 486 v) = emb g1 g2 x d c u t a b (M_put_least m v) o E := rfl
def M_put_units (m : tM) (v : Nat → Int64) : tM := (M_code m, M_draft m, M_size m, M_src m, M_kept m, M_keptSize m, M_loaded m, M_wrongLine m, M_rules m, M_heads m, M_lengths m, M_bodies m, M_weights m, M_costs m, M_symbols m, M_names m, M_hasText m, M_letters m, M_text m, M_emptySum m, M_emptyCost m, M_sums m, M_least m, v, M_upTo m, M_upToNext m, M_rest m, M_nodes m, M_nodeRule m, M_nodeFrom m, M_nodeTo m, M_waits m, M_at m, M_end m, M_value m)
theorem sm_units {g1 g2 : Nat} {x : tX} {d : tD} {c : tC} {u : tU} {t : tT} {a : tG} {b : tG} {m : tM} {o : tO} {E : List rn_C} {v : Nat → Int64} : (emb g1 g2 x d c u t a b m o E).set 68 (rn_l 36 v) = emb g1 g2 x d c u t a b (M_put_units m v) o E := rfl
def M_put_upTo (m : tM) (v : Nat → Int64) : tM := (M_code m, M_draft m, M_size m, M_src m, M_kept m, M_keptSize m, M_loaded m, M_wrongLine m, M_rules m, M_heads m, M_lengths m, M_bodies m, M_weights m, M_costs m, M_symbols m, M_names m, M_hasText m, M_letters m, M_text m, M_emptySum m, M_emptyCost m, M_sums m, M_least m, M_units m, v, M_upToNext m, M_rest m, M_nodes m, M_nodeRule m, M_nodeFrom m, M_nodeTo m, M_waits m, M_at m, M_end m, M_value m)
theorem sm_upTo {g1 g2 : Nat} {x : tX} {d : tD} {c : tC} {u : tU} {t : tT} {a : tG} {b : tG} {m : tM} {o : tO} {E : List rn_C} {v : Nat → Int64} : (emb g1 g2 x d c u t a b m o E).set 69 (rn_l 10 v) = emb g1 g2 x d c u t a b (M_put_upTo m v) o E := rfl
def M_put_upToNext (m : tM) (v : Nat → Int64) : tM := (M_code m, M_draft m, M_size m, M_src m, M_kept m, M_keptSize m, M_loaded m, M_wrongLine m, M_rules m, M_heads m, M_lengths m, M_bodies m, M_weights m, M_costs m, M_symbols m, M_names m, M_hasText m, M_letters m, M_text m, M_emptySum m, M_emptyCost m, M_sums m, M_least m, M_units m, M_upTo m, v, M_rest m, M_nodes m, M_nodeRule m, M_nodeFrom m, M_nodeTo m, M_waits m, M_at m, M_end m, M_value m)
theorem sm_upToNext {g1 g2 : Nat} {x : tX} {d : tD} {c : tC} {u : tU} {t : tT} {a : tG} {b : tG} {m : tM} {o : tO} {E : List rn_C} {v : Nat → Int64} : (emb g1 g2 x d c u t a b m o E).set 70 (rn_l 10 v) = emb g1 g2 x d c u t a b (M_put_upToNext m v) o E := rfl
def M_put_rest (m : tM) (v : Nat → Int32) : tM := (M_code m, M_draft m, M_size m, M_src m, M_kept m, M_keptSize m, M_loaded m, M_wrongLine m, M_rules m, M_heads m, M_lengths m, M_bodies m, M_weights m, M_costs m, M_symbols m, M_names m, M_hasText m, M_letters m, M_text m, M_emptySum m, M_emptyCost m, M_sums m, M_least m, M_units m, M_upTo m, M_upToNext m, v, M_nodes m, M_nodeRule m, M_nodeFrom m, M_nodeTo m, M_waits m, M_at m, M_end m, M_value m)
theorem sm_rest {g1 g2 : Nat} {x : tX} {d : tD} {c : tC} {u : tU} {t : tT} {a : tG} {b : tG} {m : tM} {o : tO} {E : List rn_C} {v : Nat → Int32} : (emb g1 g2 x d c u t a b m o E).set 71 (rn_i .int 50 v) = emb g1 g2 x d c u t a b (M_put_rest m v) o E := rfl
def M_put_nodes (m : tM) (v : Int32) : tM := (M_code m, M_draft m, M_size m, M_src m, M_kept m, M_keptSize m, M_loaded m, M_wrongLine m, M_rules m, M_heads m, M_lengths m, M_bodies m, M_weights m, M_costs m, M_symbols m, M_names m, M_hasText m, M_letters m, M_text m, M_emptySum m, M_emptyCost m, M_sums m, M_least m, M_units m, M_upTo m, M_upToNext m, M_rest m, v, M_nodeRule m, M_nodeFrom m, M_nodeTo m, M_waits m, M_at m, M_end m, M_value m)
theorem sm_nodes {g1 g2 : Nat} {x : tX} {d : tD} {c : tC} {u : tU} {t : tT} {a : tG} {b : tG} {m : tM} {o : tO} {E : List rn_C} {v : Int32} : (emb g1 g2 x d c u t a b m o E).set 53 (rn_o 7 (List.set [.int (M_code m), .ref 54, .int (M_size m), .ref 55, .ref 56, .int (M_keptSize m), .int (M_loaded m), .int (M_wrongLine m), .int (M_rules m), .ref 57, .ref 58, .ref 59, .ref 60, .ref 61, .int (M_symbols m), .ref 62, .int (M_hasText m), .int (M_letters m), .ref 63, .ref 64, .ref 65, .ref 66, .ref 67, .ref 68, .ref 69, .ref 70, .ref 71, .int (M_nodes m), .ref 72, .ref 73, .ref 74, .ref 75, .int (M_at m), .int (M_end m), .int (M_value m)] 27 (.int v))) = emb g1 g2 x d c u t a b (M_put_nodes m v) o E := rfl
def M_put_nodeRule (m : tM) (v : Nat → Int32) : tM := (M_code m, M_draft m, M_size m, M_src m, M_kept m, M_keptSize m, M_loaded m, M_wrongLine m, M_rules m, M_heads m, M_lengths m, M_bodies m, M_weights m, M_costs m, M_symbols m, M_names m, M_hasText m, M_letters m, M_text m, M_emptySum m, M_emptyCost m, M_sums m, M_least m, M_units m, M_upTo m, M_upToNext m, M_rest m, M_nodes m, v, M_nodeFrom m, M_nodeTo m, M_waits m, M_at m, M_end m, M_value m)
theorem sm_nodeRule {g1 g2 : Nat} {x : tX} {d : tD} {c : tC} {u : tU} {t : tT} {a : tG} {b : tG} {m : tM} {o : tO} {E : List rn_C} {v : Nat → Int32} : (emb g1 g2 x d c u t a b m o E).set 72 (rn_i .int 100 v) = emb g1 g2 x d c u t a b (M_put_nodeRule m v) o E := rfl
def M_put_nodeFrom (m : tM) (v : Nat → Int32) : tM := (M_code m, M_draft m, M_size m, M_src m, M_kept m, M_keptSize m, M_loaded m, M_wrongLine m, M_rules m, M_heads m, M_lengths m, M_bodies m, M_weights m, M_costs m, M_symbols m, M_names m, M_hasText m, M_letters m, M_text m, M_emptySum m, M_emptyCost m, M_sums m, M_least m, M_units m, M_upTo m, M_upToNext m, M_rest m, M_nodes m, M_nodeRule m, v, M_nodeTo m, M_waits m, M_at m, M_end m, M_value m)
theorem sm_nodeFrom {g1 g2 : Nat} {x : tX} {d : tD} {c : tC} {u : tU} {t : tT} {a : tG} {b : tG} {m : tM} {o : tO} {E : List rn_C} {v : Nat → Int32} : (emb g1 g2 x d c u t a b m o E).set 73 (rn_i .int 100 v) = emb g1 g2 x d c u t a b (M_put_nodeFrom m v) o E := rfl
def M_put_nodeTo (m : tM) (v : Nat → Int32) : tM := (M_code m, M_draft m, M_size m, M_src m, M_kept m, M_keptSize m, M_loaded m, M_wrongLine m, M_rules m, M_heads m, M_lengths m, M_bodies m, M_weights m, M_costs m, M_symbols m, M_names m, M_hasText m, M_letters m, M_text m, M_emptySum m, M_emptyCost m, M_sums m, M_least m, M_units m, M_upTo m, M_upToNext m, M_rest m, M_nodes m, M_nodeRule m, M_nodeFrom m, v, M_waits m, M_at m, M_end m, M_value m)
theorem sm_nodeTo {g1 g2 : Nat} {x : tX} {d : tD} {c : tC} {u : tU} {t : tT} {a : tG} {b : tG} {m : tM} {o : tO} {E : List rn_C} {v : Nat → Int32} : (emb g1 g2 x d c u t a b m o E).set 74 (rn_i .int 100 v) = emb g1 g2 x d c u t a b (M_put_nodeTo m v) o E := rfl
def M_put_waits (m : tM) (v : Nat → Int32) : tM := (M_code m, M_draft m, M_size m, M_src m, M_kept m, M_keptSize m, M_loaded m, M_wrongLine m, M_rules m, M_heads m, M_lengths m, M_bodies m, M_weights m, M_costs m, M_symbols m, M_names m, M_hasText m, M_letters m, M_text m, M_emptySum m, M_emptyCost m, M_sums m, M_least m, M_units m, M_upTo m, M_upToNext m, M_rest m, M_nodes m, M_nodeRule m, M_nodeFrom m, M_nodeTo m, v, M_at m, M_end m, M_value m)
theorem sm_waits {g1 g2 : Nat} {x : tX} {d : tD} {c : tC} {u : tU} {t : tT} {a : tG} {b : tG} {m : tM} {o : tO} {E : List rn_C} {v : Nat → Int32} : (emb g1 g2 x d c u t a b m o E).set 75 (rn_i .int 1500 v) = emb g1 g2 x d c u t a b (M_put_waits m v) o E := rfl
def M_put_at (m : tM) (v : Int32) : tM := (M_code m, M_draft m, M_size m, M_src m, M_kept m, M_keptSize m, M_loaded m, M_wrongLine m, M_rules m, M_heads m, M_lengths m, M_bodies m, M_weights m, M_costs m, M_symbols m, M_names m, M_hasText m, M_letters m, M_text m, M_emptySum m, M_emptyCost m, M_sums m, M_least m, M_units m, M_upTo m, M_upToNext m, M_rest m, M_nodes m, M_nodeRule m, M_nodeFrom m, M_nodeTo m, M_waits m, v, M_end m, M_value m)
theorem sm_at {g1 g2 : Nat} {x : tX} {d : tD} {c : tC} {u : tU} {t : tT} {a : tG} {b : tG} {m : tM} {o : tO} {E : List rn_C} {v : Int32} : (emb g1 g2 x d c u t a b m o E).set 53 (rn_o 7 (List.set [.int (M_code m), .ref 54, .int (M_size m), .ref 55, .ref 56, .int (M_keptSize m), .int (M_loaded m), .int (M_wrongLine m), .int (M_rules m), .ref 57, .ref 58, .ref 59, .ref 60, .ref 61, .int (M_symbols m), .ref 62, .int (M_hasText m), .int (M_letters m), .ref 63, .ref 64, .ref 65, .ref 66, .ref 67, .ref 68, .ref 69, .ref 70, .ref 71, .int (M_nodes m), .ref 72, .ref 73, .ref 74, .ref 75, .int (M_at m), .int (M_end m), .int (M_value m)] 32 (.int v))) = emb g1 g2 x d c u t a b (M_put_at m v) o E := rfl
def M_put_end (m : tM) (v : Int32) : tM := (M_code m, M_draft m, M_size m, M_src m, M_kept m, M_keptSize m, M_loaded m, M_wrongLine m, M_rules m, M_heads m, M_lengths m, M_bodies m, M_weights m, M_costs m, M_symbols m, M_names m, M_hasText m, M_letters m, M_text m, M_emptySum m, M_emptyCost m, M_sums m, M_least m, M_units m, M_upTo m, M_upToNext m, M_rest m, M_nodes m, M_nodeRule m, M_nodeFrom m, M_nodeTo m, M_waits m, M_at m, v, M_value m)
theorem sm_end {g1 g2 : Nat} {x : tX} {d : tD} {c : tC} {u : tU} {t : tT} {a : tG} {b : tG} {m : tM} {o : tO} {E : List rn_C} {v : Int32} : (emb g1 g2 x d c u t a b m o E).set 53 (rn_o 7 (List.set [.int (M_code m), .ref 54, .int (M_size m), .ref 55, .ref 56, .int (M_keptSize m), .int (M_loaded m), .int (M_wrongLine m), .int (M_rules m), .ref 57, .ref 58, .ref 59, .ref 60, .ref 61, .int (M_symbols m), .ref 62, .int (M_hasText m), .int (M_letters m), .ref 63, .ref 64, .ref 65, .ref 66, .ref 67, .ref 68, .ref 69, .ref 70, .ref 71, .int (M_nodes m), .ref 72, .ref 73, .ref 74, .ref 75, .int (M_at m), .int (M_end m), .int (M_value m)] 33 (.int v))) = emb g1 g2 x d c u t a b (M_put_end m v) o E := rfl
def M_put_value (m : tM) (v : Int32) : tM := (M_code m, M_draft m, M_size m, M_src m, M_kept m, M_keptSize m, M_loaded m, M_wrongLine m, M_rules m, M_heads m, M_lengths m, M_bodies m, M_weights m, M_costs m, M_symbols m, M_names m, M_hasText m, M_letters m, M_text m, M_emptySum m, M_emptyCost m, M_sums m, M_least m, M_units m, M_upTo m, M_upToNext m, M_rest m, M_nodes m, M_nodeRule m, M_nodeFrom m, M_nodeTo m, M_waits m, M_at m, M_end m, v)
theorem sm_value {g1 g2 : Nat} {x : tX} {d : tD} {c : tC} {u : tU} {t : tT} {a : tG} {b : tG} {m : tM} {o : tO} {E : List rn_C} {v : Int32} : (emb g1 g2 x d c u t a b m o E).set 53 (rn_o 7 (List.set [.int (M_code m), .ref 54, .int (M_size m), .ref 55, .ref 56, .int (M_keptSize m), .int (M_loaded m), .int (M_wrongLine m), .int (M_rules m), .ref 57, .ref 58, .ref 59, .ref 60, .ref 61, .int (M_symbols m), .ref 62, .int (M_hasText m), .int (M_letters m), .ref 63, .ref 64, .ref 65, .ref 66, .ref 67, .ref 68, .ref 69, .ref 70, .ref 71, .int (M_nodes m), .ref 72, .ref 73, .ref 74, .ref 75, .int (M_at m), .int (M_end m), .int (M_value m)] 34 (.int v))) = emb g1 g2 x d c u t a b (M_put_value m v) o E := rfl
end
section
def F_Dr_clear (d : tD)  : Option tD :=
  some (D_characters d, (0 : Int32))
set_option maxHeartbeats 4000000 in
set_option maxRecDepth 100000 in
theorem c_Dr_clear {Z : rn_Z} {g1 g2 : Nat} {x : tX} {d : tD} {c : tC} {u : tU} {t : tT} {a : tG} {b : tG} {m : tM} {o : tO} {E : List rn_C}  {dR : tD} (h : F_Dr_clear d  = some dR) : Call Z M_Dr_clear [.ref 2] (emb g1 g2 x d c u t a b m o E) 0 0 none (emb g1 g2 x dR c u t a b m o E) := by
  unfold F_Dr_clear at h
  refine rn_call (by decide) 0 (by exact Nat.le_of_ble_eq_true rfl) ?_
  show Rn Z M_Dr_clear 0 [some (.ref 2)] [] (emb g1 g2 x d c u t a b m o E) 0 0 _
  refine rn_aload_n (by exact dc_Dr_clear 0 rfl) (by exact rfl) ?_
  refine rn_iconst (v := (0 : Int32)) (by exact dc_Dr_clear 1 rfl) (by decide) ?_
  refine rn_putf (w2 := (emb g1 g2 x (D_characters d, (0 : Int32)) c u t a b m o E)) fd_Dr_15 (by exact dc_Dr_clear 2 rfl) (by exact rfl) (by exact rfl) (by exact Nat.le_of_ble_eq_true rfl) (by exact rfl) ?_
  cases h
  exact rn_return (by exact dc_Dr_clear 3 rfl) (by exact rfl)
def F_Dr_codeAt (v0 : Int64) (v1 : Int32) : Option Int32 :=
  some ((((v0.toUInt64 >>> (((8 : Int32) * v1).toInt64.toUInt64 &&& Int64.toUInt64 63)).toInt64) &&& (255 : Int64)).toInt32)
set_option maxHeartbeats 4000000 in
set_option maxRecDepth 100000 in
theorem c_Dr_codeAt {Z : rn_Z} {g1 g2 : Nat} {x : tX} {d : tD} {c : tC} {u : tU} {t : tT} {a : tG} {b : tG} {m : tM} {o : tO} {E : List rn_C} {v0 : Int64} {v1 : Int32} {res : Int32} (h : F_Dr_codeAt  v0 v1 = some res) : Call Z M_Dr_codeAt [.long v0, .int v1] (emb g1 g2 x d c u t a b m o E) 0 0 (some (.int res)) (emb g1 g2 x d c u t a b m o E) := by
  unfold F_Dr_codeAt at h
  refine rn_call (by decide) 0 (by exact Nat.le_of_ble_eq_true rfl) ?_
  show Rn Z M_Dr_codeAt 0 [some (.long v0), none, some (.int v1)] [] (emb g1 g2 x d c u t a b m o E) 0 0 _
  refine rn_lload_n (by exact dc_Dr_codeAt 0 rfl) (by exact rfl) ?_
  refine rn_bipush (v := (8 : Int32)) (by exact dc_Dr_codeAt 1 rfl) (by decide) ?_
  refine rn_iload_n (by exact dc_Dr_codeAt 2 rfl) (by exact rfl) ?_
  refine rn_imul (by exact dc_Dr_codeAt 3 rfl) ?_
  refine rn_lushr (by exact dc_Dr_codeAt 4 rfl) ?_
  refine rn_ldc2 (v := (255 : Int64)) (by exact dc_Dr_codeAt 5 rfl) kl_Dr_30 ?_
  refine rn_land (by exact dc_Dr_codeAt 6 rfl) ?_
  refine rn_l2i (by exact dc_Dr_codeAt 7 rfl) ?_
  cases h
  exact rn_ireturn (by exact dc_Dr_codeAt 8 rfl) (by exact rfl)
def F_Dr_isAllowed (v0 : Int32) : Option Int32 :=
  Option.bind (
    if v0 = (10 : Int32) then (
      some (1 : Int32)
    ) else (
      if v0 < (32 : Int32) then (
        some (0 : Int32)
      ) else (
        if (126 : Int32) < v0 then (
          some (0 : Int32)
        ) else (
          some (1 : Int32)
        )
      )
    )
   : Option Int32) fun y1 =>
  Option.bind (rn_bl y1) fun y8 =>
  some y8
set_option maxHeartbeats 4000000 in
set_option maxRecDepth 100000 in
theorem c_Dr_isAllowed {Z : rn_Z} {g1 g2 : Nat} {x : tX} {d : tD} {c : tC} {u : tU} {t : tT} {a : tG} {b : tG} {m : tM} {o : tO} {E : List rn_C} {v0 : Int32} {res : Int32} (h : F_Dr_isAllowed  v0 = some res) : Call Z M_Dr_isAllowed [.int v0] (emb g1 g2 x d c u t a b m o E) 0 0 (some (.int res)) (emb g1 g2 x d c u t a b m o E) := by
  unfold F_Dr_isAllowed at h
  refine rn_call (by decide) 0 (by exact Nat.le_of_ble_eq_true rfl) ?_
  show Rn Z M_Dr_isAllowed 0 [some (.int v0)] [] (emb g1 g2 x d c u t a b m o E) 0 0 _
  refine rn_iload_n (by exact dc_Dr_isAllowed 0 rfl) (by exact rfl) ?_
  refine rn_bipush (v := (10 : Int32)) (by exact dc_Dr_isAllowed 1 rfl) (by decide) ?_
  obtain ⟨y1, e2, h4⟩ := rn_bind h
  clear h
  have jq3 : Rn Z M_Dr_isAllowed 23 [none] [.int y1] (emb g1 g2 x d c u t a b m o E) 0 0 (rn_Ret Z (some (.int res)) (emb g1 g2 x d c u t a b m o E)) := by
    obtain ⟨y8, e9, h11⟩ := rn_bind h4
    clear h4
    obtain ⟨rfl, hb10⟩ := rn_bl_some e9
    cases h11
    exact rn_zreturn (by exact dc_Dr_isAllowed 12 rfl) (by exact rfl) hb10
  by_cases c5 : v0 = (10 : Int32)
  · replace e2 := rn_ifp c5 e2
    refine rn_icmp_eq_t 18 (by exact dc_Dr_isAllowed 2 rfl) (by exact rfl) c5 ?_
    refine rn_iconst (v := (1 : Int32)) (by exact dc_Dr_isAllowed 9 rfl) (by decide) ?_
    refine rn_goto 23 (by exact dc_Dr_isAllowed 10 rfl) (by exact rfl) ?_
    cases e2
    exact rn_weak _ (by repeat (first | exact rn_le_0 | apply rn_le_s | apply rn_le_x)) jq3
  · replace e2 := rn_ifn c5 e2
    refine rn_icmp_eq_f 18 (by exact dc_Dr_isAllowed 2 rfl) (by exact rfl) c5 ?_
    refine rn_iload_n (by exact dc_Dr_isAllowed 3 rfl) (by exact rfl) ?_
    refine rn_bipush (v := (32 : Int32)) (by exact dc_Dr_isAllowed 4 rfl) (by decide) ?_
    by_cases c6 : v0 < (32 : Int32)
    · replace e2 := rn_ifp c6 e2
      refine rn_icmp_lt_t 22 (by exact dc_Dr_isAllowed 5 rfl) (by exact rfl) c6 ?_
      refine rn_iconst (v := (0 : Int32)) (by exact dc_Dr_isAllowed 11 rfl) (by decide) ?_
      cases e2
      exact rn_weak _ (by repeat (first | exact rn_le_0 | apply rn_le_s | apply rn_le_x)) jq3
    · replace e2 := rn_ifn c6 e2
      refine rn_icmp_lt_f 22 (by exact dc_Dr_isAllowed 5 rfl) (by exact rfl) c6 ?_
      refine rn_iload_n (by exact dc_Dr_isAllowed 6 rfl) (by exact rfl) ?_
      refine rn_bipush (v := (126 : Int32)) (by exact dc_Dr_isAllowed 7 rfl) (by decide) ?_
      by_cases c7 : (126 : Int32) < v0
      · replace e2 := rn_ifp c7 e2
        refine rn_icmp_gt_t 22 (by exact dc_Dr_isAllowed 8 rfl) (by exact rfl) c7 ?_
        refine rn_iconst (v := (0 : Int32)) (by exact dc_Dr_isAllowed 11 rfl) (by decide) ?_
        cases e2
        exact rn_weak _ (by repeat (first | exact rn_le_0 | apply rn_le_s | apply rn_le_x)) jq3
      · replace e2 := rn_ifn c7 e2
        refine rn_icmp_gt_f 22 (by exact dc_Dr_isAllowed 8 rfl) (by exact rfl) c7 ?_
        refine rn_iconst (v := (1 : Int32)) (by exact dc_Dr_isAllowed 9 rfl) (by decide) ?_
        refine rn_goto 23 (by exact dc_Dr_isAllowed 10 rfl) (by exact rfl) ?_
        cases e2
        exact rn_weak _ (by repeat (first | exact rn_le_0 | apply rn_le_s | apply rn_le_x)) jq3
def F_Dr_append_L28 (d : tD) (l1 : Int32) (l2 : Int64) : Nat → Int32 → Option ((Int32 × tD) ⊕ Unit)
  | 0, _ => none
  | n + 1, l4 =>
    if l1 ≤ l4 then (
      some (.inr ())
    ) else (
      Option.bind (F_Dr_codeAt  l2 l4) fun x3 =>
      Option.bind (F_Dr_isAllowed  x3) fun x6 =>
      if ¬ x6 = 0 then (
        F_Dr_append_L28 d l1 l2 n (l4 + 1)
      ) else (
        some (.inl ((0 : Int32), d))
      )
    )
set_option maxHeartbeats 4000000 in
set_option maxRecDepth 100000 in
theorem p_Dr_append_L28 {Z : rn_Z} {g1 g2 : Nat} {x : tX} {d : tD} {c : tC} {u : tU} {t : tT} {a : tG} {b : tG} {m : tM} {o : tO} {E : List rn_C}  {l1 : Int32} {l2 : Int64} {K : rn_K} {out : ((Int32 × tD) ⊕ Unit)} (hx : out = .inr () → Rn Z M_Dr_append 54 [some (.ref 2), some (.int l1), some (.long l2), none, none] [] (emb g1 g2 x d c u t a b m o E) 0 0 K) (hr : ∀ (rv : Int32) (dw : tD), out = .inl (rv, dw) → K = rn_Ret Z (some (.int rv)) (emb g1 g2 x dw c u t a b m o E)) (n : Nat) : ∀ (l4 : Int32), F_Dr_append_L28 d l1 l2 n l4 = some out → Rn Z M_Dr_append 28 [some (.ref 2), some (.int l1), some (.long l2), none, some (.int l4)] [] (emb g1 g2 x d c u t a b m o E) 0 0 K := by
  induction n with
  | zero =>
    intro l4 h
    rw [F_Dr_append_L28] at h
    cases h
  | succ n ih =>
    intro l4 h
    rw [F_Dr_append_L28] at h
    refine rn_iload (by exact dc_Dr_append 16 rfl) (by exact rfl) ?_
    refine rn_iload_n (by exact dc_Dr_append 17 rfl) (by exact rfl) ?_
    by_cases c1 : l1 ≤ l4
    · replace h := rn_ifp c1 h
      refine rn_icmp_ge_t 54 (by exact dc_Dr_append 18 rfl) (by exact rfl) c1 ?_
      cases h
      exact rn_weak _ (by repeat (first | exact rn_le_0 | apply rn_le_s | apply rn_le_x)) (hx rfl)
    · replace h := rn_ifn c1 h
      refine rn_icmp_ge_f 54 (by exact dc_Dr_append 18 rfl) (by exact rfl) c1 ?_
      refine rn_lload_n (by exact dc_Dr_append 19 rfl) (by exact rfl) ?_
      refine rn_iload (by exact dc_Dr_append 20 rfl) (by exact rfl) ?_
      obtain ⟨x3, e2, h4⟩ := rn_bind h
      clear h
      refine rn_invS0 (by exact c_Dr_codeAt e2) is_Dr_19 (by exact ⟨Nat.le_of_ble_eq_true rfl, Nat.le_of_ble_eq_true rfl⟩) (by exact dc_Dr_append 21 rfl) (by exact rfl) (by exact rfl) (by exact Nat.le_of_ble_eq_true rfl) ?_
      show Rn _ _ 40 [some (.ref 2), some (.int l1), some (.long l2), none, some (.int l4)] [.int x3] (emb g1 g2 x d c u t a b m o E) _ _ _
      obtain ⟨x6, e5, h7⟩ := rn_bind h4
      clear h4
      refine rn_invS0 (by exact c_Dr_isAllowed e5) is_Dr_23 (by exact ⟨Nat.le_of_ble_eq_true rfl, Nat.le_of_ble_eq_true rfl⟩) (by exact dc_Dr_append 22 rfl) (by exact rfl) (by exact rfl) (by exact Nat.le_of_ble_eq_true rfl) ?_
      show Rn _ _ 43 [some (.ref 2), some (.int l1), some (.long l2), none, some (.int l4)] [.int x6] (emb g1 g2 x d c u t a b m o E) _ _ _
      by_cases c8 : ¬ x6 = 0
      · replace h7 := rn_ifp c8 h7
        refine rn_if_ne_t 48 (by exact dc_Dr_append 23 rfl) (by exact rfl) c8 ?_
        refine rn_iinc (ls' := [some (.ref 2), some (.int l1), some (.long l2), none, some (.int (l4 + 1))]) (by exact dc_Dr_append 26 rfl) (by decide) (by exact rfl) (by exact rn_inc_1 _) (by exact rfl) ?_
        refine rn_goto 28 (by exact dc_Dr_append 27 rfl) (by exact rfl) ?_
        exact rn_weak _ (by repeat (first | exact rn_le_0 | apply rn_le_s | apply rn_le_x)) (ih _ h7)
      · replace h7 := rn_ifn c8 h7
        refine rn_if_ne_f 48 (by exact dc_Dr_append 23 rfl) (by exact rfl) (Classical.not_not.mp c8) ?_
        refine rn_iconst (v := (0 : Int32)) (by exact dc_Dr_append 24 rfl) (by decide) ?_
        cases h7
        have hK := hr _ _ rfl
        subst hK
        exact rn_zreturn (by exact dc_Dr_append 25 rfl) (by exact rfl) (by first | exact Or.inl rfl | exact Or.inr rfl)
def F_Dr_append_L59 (l2 : Int64) : Nat → tD → Int32 → Option tD
  | 0, _, _ => none
  | n + 1, d, l4 =>
    if l4 < 0 then (
      some d
    ) else (
      Option.bind (F_Dr_codeAt  l2 l4) fun x3 =>
      Option.bind (aS (D_characters d) 300 (D_length d) (rn_ch ((x3.toUInt32 % 65536).toInt32))) fun f5 =>
      F_Dr_append_L59 l2 n (f5, (D_length d) + (1 : Int32)) (l4 + (-1))
    )
set_option maxHeartbeats 4000000 in
set_option maxRecDepth 100000 in
theorem p_Dr_append_L59 {Z : rn_Z} {g1 g2 : Nat} {x : tX}  {c : tC} {u : tU} {t : tT} {a : tG} {b : tG} {m : tM} {o : tO} {E : List rn_C}  {l2 : Int64} {K : rn_K} {dz : tD} (hx : Rn Z M_Dr_append 96 [none, none, none, none, none] [] (emb g1 g2 x dz c u t a b m o E) 0 0 K) (n : Nat) : ∀ (d : tD) (l4 : Int32), F_Dr_append_L59 l2 n d l4 = some dz → Rn Z M_Dr_append 59 [some (.ref 2), none, some (.long l2), none, some (.int l4)] [] (emb g1 g2 x d c u t a b m o E) 0 0 K := by
  induction n with
  | zero =>
    intro d l4 h
    rw [F_Dr_append_L59] at h
    cases h
  | succ n ih =>
    intro d l4 h
    rw [F_Dr_append_L59] at h
    refine rn_iload (by exact dc_Dr_append 32 rfl) (by exact rfl) ?_
    by_cases c1 : l4 < 0
    · replace h := rn_ifp c1 h
      refine rn_if_lt_t 96 (by exact dc_Dr_append 33 rfl) (by exact rfl) c1 ?_
      cases h
      exact rn_weak _ (by repeat (first | exact rn_le_0 | apply rn_le_s | apply rn_le_x)) hx
    · replace h := rn_ifn c1 h
      refine rn_if_lt_f 96 (by exact dc_Dr_append 33 rfl) (by exact rfl) c1 ?_
      refine rn_aload_n (by exact dc_Dr_append 34 rfl) (by exact rfl) ?_
      refine rn_getf (v := .ref 3) fd_Dr_9 (by exact dc_Dr_append 35 rfl) (by exact rfl) (by exact rfl) ?_
      refine rn_aload_n (by exact dc_Dr_append 36 rfl) (by exact rfl) ?_
      refine rn_getf (v := .int (D_length d)) fd_Dr_15 (by exact dc_Dr_append 37 rfl) (by exact rfl) (by exact rfl) ?_
      refine rn_lload_n (by exact dc_Dr_append 38 rfl) (by exact rfl) ?_
      refine rn_iload (by exact dc_Dr_append 39 rfl) (by exact rfl) ?_
      obtain ⟨x3, e2, h4⟩ := rn_bind h
      clear h
      refine rn_invS0 (by exact c_Dr_codeAt e2) is_Dr_19 (by exact ⟨Nat.le_of_ble_eq_true rfl, Nat.le_of_ble_eq_true rfl⟩) (by exact dc_Dr_append 40 rfl) (by exact rfl) (by exact rfl) (by exact Nat.le_of_ble_eq_true rfl) ?_
      show Rn _ _ 78 [some (.ref 2), none, some (.long l2), none, some (.int l4)] [.int x3, .int (D_length d), .ref 3] (emb g1 g2 x d c u t a b m o E) _ _ _
      refine rn_i2c (by exact dc_Dr_append 41 rfl) ?_
      obtain ⟨f5, e6, h7⟩ := rn_bind h4
      clear h4
      refine rn_castore (w2 := (emb g1 g2 x (f5, D_length d) c u t a b m o E)) (by exact dc_Dr_append 42 rfl) (by exact rfl) e6 (by exact rfl) ?_
      refine rn_aload_n (by exact dc_Dr_append 43 rfl) (by exact rfl) ?_
      refine rn_dup (by exact dc_Dr_append 44 rfl) (by exact rfl) ?_
      refine rn_getf (v := .int (D_length d)) fd_Dr_15 (by exact dc_Dr_append 45 rfl) (by exact rfl) (by exact rfl) ?_
      refine rn_iconst (v := (1 : Int32)) (by exact dc_Dr_append 46 rfl) (by decide) ?_
      refine rn_iadd (by exact dc_Dr_append 47 rfl) ?_
      refine rn_putf (w2 := (emb g1 g2 x (f5, (D_length d) + (1 : Int32)) c u t a b m o E)) fd_Dr_15 (by exact dc_Dr_append 48 rfl) (by exact rfl) (by exact rfl) (by exact Nat.le_of_ble_eq_true rfl) (by exact rfl) ?_
      refine rn_iinc (ls' := [some (.ref 2), none, some (.long l2), none, some (.int (l4 + (-1)))]) (by exact dc_Dr_append 49 rfl) (by decide) (by exact rfl) (by exact rn_inc_m1 _) (by exact rfl) ?_
      refine rn_goto 59 (by exact dc_Dr_append 50 rfl) (by exact rfl) ?_
      exact rn_weak _ (by repeat (first | exact rn_le_0 | apply rn_le_s | apply rn_le_x)) (ih _ _ h7)
def F_Dr_append (d : tD) (v0 : Int32) (v1 : Int64) : Option (Int32 × tD) :=
  if v0 < (1 : Int32) then (
    some ((0 : Int32), d)
  ) else (
    if (8 : Int32) < v0 then (
      some ((0 : Int32), d)
    ) else (
      if ((D_length d) + v0) ≤ (300 : Int32) then (
        Option.bind (F_Dr_append_L28 d v0 v1 rn_fu (0 : Int32)) fun z12 =>
        match z12 with
        | .inl r11 => some r11
        | .inr _ =>
          Option.bind (F_Dr_append_L59 v1 rn_fu d (v0 - (1 : Int32))) fun d10 =>
          some ((1 : Int32), d10)
      ) else (
        some ((0 : Int32), d)
      )
    )
  )
set_option maxHeartbeats 4000000 in
set_option maxRecDepth 100000 in
theorem c_Dr_append {Z : rn_Z} {g1 g2 : Nat} {x : tX} {d : tD} {c : tC} {u : tU} {t : tT} {a : tG} {b : tG} {m : tM} {o : tO} {E : List rn_C} {v0 : Int32} {v1 : Int64} {res : Int32} {dR : tD} (h : F_Dr_append d v0 v1 = some (res, dR)) : Call Z M_Dr_append [.ref 2, .int v0, .long v1] (emb g1 g2 x d c u t a b m o E) 0 0 (some (.int res)) (emb g1 g2 x dR c u t a b m o E) := by
  unfold F_Dr_append at h
  refine rn_call (by decide) 1 (by exact Nat.le_of_ble_eq_true rfl) ?_
  show Rn Z M_Dr_append 0 [some (.ref 2), some (.int v0), some (.long v1), none, none] [] (emb g1 g2 x d c u t a b m o E) 0 0 _
  refine rn_iload_n (by exact dc_Dr_append 0 rfl) (by exact rfl) ?_
  refine rn_iconst (v := (1 : Int32)) (by exact dc_Dr_append 1 rfl) (by decide) ?_
  by_cases c1 : v0 < (1 : Int32)
  · replace h := rn_ifp c1 h
    refine rn_icmp_lt_t 23 (by exact dc_Dr_append 2 rfl) (by exact rfl) c1 ?_
    refine rn_iconst (v := (0 : Int32)) (by exact dc_Dr_append 12 rfl) (by decide) ?_
    cases h
    exact rn_zreturn (by exact dc_Dr_append 13 rfl) (by exact rfl) (by first | exact Or.inl rfl | exact Or.inr rfl)
  · replace h := rn_ifn c1 h
    refine rn_icmp_lt_f 23 (by exact dc_Dr_append 2 rfl) (by exact rfl) c1 ?_
    refine rn_iload_n (by exact dc_Dr_append 3 rfl) (by exact rfl) ?_
    refine rn_bipush (v := (8 : Int32)) (by exact dc_Dr_append 4 rfl) (by decide) ?_
    by_cases c2 : (8 : Int32) < v0
    · replace h := rn_ifp c2 h
      refine rn_icmp_gt_t 23 (by exact dc_Dr_append 5 rfl) (by exact rfl) c2 ?_
      refine rn_iconst (v := (0 : Int32)) (by exact dc_Dr_append 12 rfl) (by decide) ?_
      cases h
      exact rn_zreturn (by exact dc_Dr_append 13 rfl) (by exact rfl) (by first | exact Or.inl rfl | exact Or.inr rfl)
    · replace h := rn_ifn c2 h
      refine rn_icmp_gt_f 23 (by exact dc_Dr_append 5 rfl) (by exact rfl) c2 ?_
      refine rn_aload_n (by exact dc_Dr_append 6 rfl) (by exact rfl) ?_
      refine rn_getf (v := .int (D_length d)) fd_Dr_15 (by exact dc_Dr_append 7 rfl) (by exact rfl) (by exact rfl) ?_
      refine rn_iload_n (by exact dc_Dr_append 8 rfl) (by exact rfl) ?_
      refine rn_iadd (by exact dc_Dr_append 9 rfl) ?_
      refine rn_sipush (v := (300 : Int32)) (by exact dc_Dr_append 10 rfl) (by decide) ?_
      by_cases c3 : ((D_length d) + v0) ≤ (300 : Int32)
      · replace h := rn_ifp c3 h
        refine rn_icmp_le_t 25 (by exact dc_Dr_append 11 rfl) (by exact rfl) c3 ?_
        refine rn_iconst (v := (0 : Int32)) (by exact dc_Dr_append 14 rfl) (by decide) ?_
        refine rn_istore (ls' := [some (.ref 2), some (.int v0), some (.long v1), none, some (.int (0 : Int32))]) (by exact dc_Dr_append 15 rfl) (by decide) (by exact rfl) ?_
        obtain ⟨z12, e4, h6⟩ := rn_bind h
        clear h
        rcases z12 with ⟨w13, w14⟩ | _
        · dsimp only at h6
          cases h6
          exact rn_weak _ (by repeat (first | exact rn_le_0 | apply rn_le_s | apply rn_le_x)) (p_Dr_append_L28 (fun q => by cases q) (fun _ _ q => by cases q; rfl) _ _ e4)
        · dsimp only at h6
          have jx5 : Rn Z M_Dr_append 54 [some (.ref 2), some (.int v0), some (.long v1), none, none] [] (emb g1 g2 x d c u t a b m o E) 0 0 (rn_Ret Z (some (.int res)) (emb g1 g2 x dR c u t a b m o E)) := by
            refine rn_iload_n (by exact dc_Dr_append 28 rfl) (by exact rfl) ?_
            refine rn_iconst (v := (1 : Int32)) (by exact dc_Dr_append 29 rfl) (by decide) ?_
            refine rn_isub (by exact dc_Dr_append 30 rfl) ?_
            refine rn_istore (ls' := [some (.ref 2), some (.int v0), some (.long v1), none, some (.int (v0 - (1 : Int32)))]) (by exact dc_Dr_append 31 rfl) (by decide) (by exact rfl) ?_
            obtain ⟨d10, e7, h9⟩ := rn_bind h6
            clear h6
            have jx8 : Rn Z M_Dr_append 96 [none, none, none, none, none] [] (emb g1 g2 x d10 c u t a b m o E) 0 0 (rn_Ret Z (some (.int res)) (emb g1 g2 x dR c u t a b m o E)) := by
              refine rn_iconst (v := (1 : Int32)) (by exact dc_Dr_append 51 rfl) (by decide) ?_
              cases h9
              exact rn_zreturn (by exact dc_Dr_append 52 rfl) (by exact rfl) (by first | exact Or.inl rfl | exact Or.inr rfl)
            exact rn_weak _ (by repeat (first | exact rn_le_0 | apply rn_le_s | apply rn_le_x)) (p_Dr_append_L59 jx8 _ _ _ e7)
          exact rn_weak _ (by repeat (first | exact rn_le_0 | apply rn_le_s | apply rn_le_x)) (p_Dr_append_L28 (fun q => by cases q; exact jx5) (fun _ _ q => by cases q) _ _ e4)
      · replace h := rn_ifn c3 h
        refine rn_icmp_le_f 25 (by exact dc_Dr_append 11 rfl) (by exact rfl) c3 ?_
        refine rn_iconst (v := (0 : Int32)) (by exact dc_Dr_append 12 rfl) (by decide) ?_
        cases h
        exact rn_zreturn (by exact dc_Dr_append 13 rfl) (by exact rfl) (by first | exact Or.inl rfl | exact Or.inr rfl)
def F_Wt_isSmallLetter (v0 : Int32) : Option Int32 :=
  Option.bind (
    if v0 < (97 : Int32) then (
      some (0 : Int32)
    ) else (
      if (122 : Int32) < v0 then (
        some (0 : Int32)
      ) else (
        some (1 : Int32)
      )
    )
   : Option Int32) fun y1 =>
  Option.bind (rn_bl y1) fun y7 =>
  some y7
set_option maxHeartbeats 4000000 in
set_option maxRecDepth 100000 in
theorem c_Wt_isSmallLetter {Z : rn_Z} {g1 g2 : Nat} {x : tX} {d : tD} {c : tC} {u : tU} {t : tT} {a : tG} {b : tG} {m : tM} {o : tO} {E : List rn_C} {v0 : Int32} {res : Int32} (h : F_Wt_isSmallLetter  v0 = some res) : Call Z M_Wt_isSmallLetter [.int v0] (emb g1 g2 x d c u t a b m o E) 0 0 (some (.int res)) (emb g1 g2 x d c u t a b m o E) := by
  unfold F_Wt_isSmallLetter at h
  refine rn_call (by decide) 0 (by exact Nat.le_of_ble_eq_true rfl) ?_
  show Rn Z M_Wt_isSmallLetter 0 [some (.int v0)] [] (emb g1 g2 x d c u t a b m o E) 0 0 _
  refine rn_iload_n (by exact dc_Wt_isSmallLetter 0 rfl) (by exact rfl) ?_
  refine rn_bipush (v := (97 : Int32)) (by exact dc_Wt_isSmallLetter 1 rfl) (by decide) ?_
  obtain ⟨y1, e2, h4⟩ := rn_bind h
  clear h
  have jq3 : Rn Z M_Wt_isSmallLetter 17 [none] [.int y1] (emb g1 g2 x d c u t a b m o E) 0 0 (rn_Ret Z (some (.int res)) (emb g1 g2 x d c u t a b m o E)) := by
    obtain ⟨y7, e8, h10⟩ := rn_bind h4
    clear h4
    obtain ⟨rfl, hb9⟩ := rn_bl_some e8
    cases h10
    exact rn_zreturn (by exact dc_Wt_isSmallLetter 9 rfl) (by exact rfl) hb9
  by_cases c5 : v0 < (97 : Int32)
  · replace e2 := rn_ifp c5 e2
    refine rn_icmp_lt_t 16 (by exact dc_Wt_isSmallLetter 2 rfl) (by exact rfl) c5 ?_
    refine rn_iconst (v := (0 : Int32)) (by exact dc_Wt_isSmallLetter 8 rfl) (by decide) ?_
    cases e2
    exact rn_weak _ (by repeat (first | exact rn_le_0 | apply rn_le_s | apply rn_le_x)) jq3
  · replace e2 := rn_ifn c5 e2
    refine rn_icmp_lt_f 16 (by exact dc_Wt_isSmallLetter 2 rfl) (by exact rfl) c5 ?_
    refine rn_iload_n (by exact dc_Wt_isSmallLetter 3 rfl) (by exact rfl) ?_
    refine rn_bipush (v := (122 : Int32)) (by exact dc_Wt_isSmallLetter 4 rfl) (by decide) ?_
    by_cases c6 : (122 : Int32) < v0
    · replace e2 := rn_ifp c6 e2
      refine rn_icmp_gt_t 16 (by exact dc_Wt_isSmallLetter 5 rfl) (by exact rfl) c6 ?_
      refine rn_iconst (v := (0 : Int32)) (by exact dc_Wt_isSmallLetter 8 rfl) (by decide) ?_
      cases e2
      exact rn_weak _ (by repeat (first | exact rn_le_0 | apply rn_le_s | apply rn_le_x)) jq3
    · replace e2 := rn_ifn c6 e2
      refine rn_icmp_gt_f 16 (by exact dc_Wt_isSmallLetter 5 rfl) (by exact rfl) c6 ?_
      refine rn_iconst (v := (1 : Int32)) (by exact dc_Wt_isSmallLetter 6 rfl) (by decide) ?_
      refine rn_goto 17 (by exact dc_Wt_isSmallLetter 7 rfl) (by exact rfl) ?_
      cases e2
      exact rn_weak _ (by repeat (first | exact rn_le_0 | apply rn_le_s | apply rn_le_x)) jq3
def F_Dr_isText_L13 (d : tD) : Nat → Int32 → Option (Int32 ⊕ Unit)
  | 0, _ => none
  | n + 1, l1 =>
    if (D_length d) ≤ l1 then (
      some (.inr ())
    ) else (
      Option.bind (aG (D_characters d) 300 l1) fun x2 =>
      Option.bind (F_Wt_isSmallLetter  x2) fun x6 =>
      if ¬ x6 = 0 then (
        F_Dr_isText_L13 d n (l1 + 1)
      ) else (
        some (.inl (0 : Int32))
      )
    )
set_option maxHeartbeats 4000000 in
set_option maxRecDepth 100000 in
theorem p_Dr_isText_L13 {Z : rn_Z} {g1 g2 : Nat} {x : tX} {d : tD} {c : tC} {u : tU} {t : tT} {a : tG} {b : tG} {m : tM} {o : tO} {E : List rn_C}   {K : rn_K} {out : (Int32 ⊕ Unit)} (hx : out = .inr () → Rn Z M_Dr_isText 41 [none, none] [] (emb g1 g2 x d c u t a b m o E) 0 0 K) (hr : ∀ (rv : Int32), out = .inl rv → K = rn_Ret Z (some (.int rv)) (emb g1 g2 x d c u t a b m o E)) (n : Nat) : ∀ (l1 : Int32), F_Dr_isText_L13 d n l1 = some out → Rn Z M_Dr_isText 13 [some (.ref 2), some (.int l1)] [] (emb g1 g2 x d c u t a b m o E) 0 0 K := by
  induction n with
  | zero =>
    intro l1 h
    rw [F_Dr_isText_L13] at h
    cases h
  | succ n ih =>
    intro l1 h
    rw [F_Dr_isText_L13] at h
    refine rn_iload_n (by exact dc_Dr_isText 8 rfl) (by exact rfl) ?_
    refine rn_aload_n (by exact dc_Dr_isText 9 rfl) (by exact rfl) ?_
    refine rn_getf (v := .int (D_length d)) fd_Dr_15 (by exact dc_Dr_isText 10 rfl) (by exact rfl) (by exact rfl) ?_
    by_cases c1 : (D_length d) ≤ l1
    · replace h := rn_ifp c1 h
      refine rn_icmp_ge_t 41 (by exact dc_Dr_isText 11 rfl) (by exact rfl) c1 ?_
      cases h
      exact rn_weak _ (by repeat (first | exact rn_le_0 | apply rn_le_s | apply rn_le_x)) (hx rfl)
    · replace h := rn_ifn c1 h
      refine rn_icmp_ge_f 41 (by exact dc_Dr_isText 11 rfl) (by exact rfl) c1 ?_
      refine rn_aload_n (by exact dc_Dr_isText 12 rfl) (by exact rfl) ?_
      refine rn_getf (v := .ref 3) fd_Dr_9 (by exact dc_Dr_isText 13 rfl) (by exact rfl) (by exact rfl) ?_
      refine rn_iload_n (by exact dc_Dr_isText 14 rfl) (by exact rfl) ?_
      obtain ⟨x2, e3, h4⟩ := rn_bind h
      clear h
      refine rn_caload (by exact dc_Dr_isText 15 rfl) (by exact rfl) e3 ?_
      obtain ⟨x6, e5, h7⟩ := rn_bind h4
      clear h4
      refine rn_invS0 (by exact c_Wt_isSmallLetter e5) is_Dr_27 (by exact ⟨Nat.le_of_ble_eq_true rfl, Nat.le_of_ble_eq_true rfl⟩) (by exact dc_Dr_isText 16 rfl) (by exact rfl) (by exact rfl) (by exact Nat.le_of_ble_eq_true rfl) ?_
      show Rn _ _ 30 [some (.ref 2), some (.int l1)] [.int x6] (emb g1 g2 x d c u t a b m o E) _ _ _
      by_cases c8 : ¬ x6 = 0
      · replace h7 := rn_ifp c8 h7
        refine rn_if_ne_t 35 (by exact dc_Dr_isText 17 rfl) (by exact rfl) c8 ?_
        refine rn_iinc (ls' := [some (.ref 2), some (.int (l1 + 1))]) (by exact dc_Dr_isText 20 rfl) (by decide) (by exact rfl) (by exact rn_inc_1 _) (by exact rfl) ?_
        refine rn_goto 13 (by exact dc_Dr_isText 21 rfl) (by exact rfl) ?_
        exact rn_weak _ (by repeat (first | exact rn_le_0 | apply rn_le_s | apply rn_le_x)) (ih _ h7)
      · replace h7 := rn_ifn c8 h7
        refine rn_if_ne_f 35 (by exact dc_Dr_isText 17 rfl) (by exact rfl) (Classical.not_not.mp c8) ?_
        refine rn_iconst (v := (0 : Int32)) (by exact dc_Dr_isText 18 rfl) (by decide) ?_
        cases h7
        have hK := hr _ rfl
        subst hK
        exact rn_zreturn (by exact dc_Dr_isText 19 rfl) (by exact rfl) (by first | exact Or.inl rfl | exact Or.inr rfl)
def F_Dr_isText (d : tD)  : Option Int32 :=
  if (D_length d) ≤ (8 : Int32) then (
    Option.bind (F_Dr_isText_L13 d rn_fu (0 : Int32)) fun z6 =>
    match z6 with
    | .inl r5 => some r5
    | .inr _ =>
      some (1 : Int32)
  ) else (
    some (0 : Int32)
  )
set_option maxHeartbeats 4000000 in
set_option maxRecDepth 100000 in
theorem c_Dr_isText {Z : rn_Z} {g1 g2 : Nat} {x : tX} {d : tD} {c : tC} {u : tU} {t : tT} {a : tG} {b : tG} {m : tM} {o : tO} {E : List rn_C}  {res : Int32} (h : F_Dr_isText d  = some res) : Call Z M_Dr_isText [.ref 2] (emb g1 g2 x d c u t a b m o E) 0 0 (some (.int res)) (emb g1 g2 x d c u t a b m o E) := by
  unfold F_Dr_isText at h
  refine rn_call (by decide) 1 (by exact Nat.le_of_ble_eq_true rfl) ?_
  show Rn Z M_Dr_isText 0 [some (.ref 2), none] [] (emb g1 g2 x d c u t a b m o E) 0 0 _
  refine rn_aload_n (by exact dc_Dr_isText 0 rfl) (by exact rfl) ?_
  refine rn_getf (v := .int (D_length d)) fd_Dr_15 (by exact dc_Dr_isText 1 rfl) (by exact rfl) (by exact rfl) ?_
  refine rn_bipush (v := (8 : Int32)) (by exact dc_Dr_isText 2 rfl) (by decide) ?_
  by_cases c1 : (D_length d) ≤ (8 : Int32)
  · replace h := rn_ifp c1 h
    refine rn_icmp_le_t 11 (by exact dc_Dr_isText 3 rfl) (by exact rfl) c1 ?_
    refine rn_iconst (v := (0 : Int32)) (by exact dc_Dr_isText 6 rfl) (by decide) ?_
    refine rn_istore_n (ls' := [some (.ref 2), some (.int (0 : Int32))]) (by exact dc_Dr_isText 7 rfl) (by decide) (by exact rfl) ?_
    obtain ⟨z6, e2, h4⟩ := rn_bind h
    clear h
    rcases z6 with w7 | _
    · dsimp only at h4
      cases h4
      exact rn_weak _ (by repeat (first | exact rn_le_0 | apply rn_le_s | apply rn_le_x)) (p_Dr_isText_L13 (fun q => by cases q) (fun _ q => by cases q; rfl) _ _ e2)
    · dsimp only at h4
      have jx3 : Rn Z M_Dr_isText 41 [none, none] [] (emb g1 g2 x d c u t a b m o E) 0 0 (rn_Ret Z (some (.int res)) (emb g1 g2 x d c u t a b m o E)) := by
        refine rn_iconst (v := (1 : Int32)) (by exact dc_Dr_isText 22 rfl) (by decide) ?_
        cases h4
        exact rn_zreturn (by exact dc_Dr_isText 23 rfl) (by exact rfl) (by first | exact Or.inl rfl | exact Or.inr rfl)
      exact rn_weak _ (by repeat (first | exact rn_le_0 | apply rn_le_s | apply rn_le_x)) (p_Dr_isText_L13 (fun q => by cases q; exact jx3) (fun _ q => by cases q) _ _ e2)
  · replace h := rn_ifn c1 h
    refine rn_icmp_le_f 11 (by exact dc_Dr_isText 3 rfl) (by exact rfl) c1 ?_
    refine rn_iconst (v := (0 : Int32)) (by exact dc_Dr_isText 4 rfl) (by decide) ?_
    cases h
    exact rn_zreturn (by exact dc_Dr_isText 5 rfl) (by exact rfl) (by first | exact Or.inl rfl | exact Or.inr rfl)
def F_Dr_lineCount_L4 (d : tD) : Nat → Int32 → Int32 → Option Int32
  | 0, _, _ => none
  | n + 1, l1, l2 =>
    if (D_length d) ≤ l2 then (
      some l1
    ) else (
      Option.bind (aG (D_characters d) 300 l2) fun x2 =>
      Option.bind (
        if ¬ x2 = (10 : Int32) then (
          some (l1 : Int32)
        ) else (
          some (l1 + 1 : Int32)
        )
       : Option Int32) fun y5 =>
      F_Dr_lineCount_L4 d n y5 (l2 + 1)
    )
set_option maxHeartbeats 4000000 in
set_option maxRecDepth 100000 in
theorem p_Dr_lineCount_L4 {Z : rn_Z} {g1 g2 : Nat} {x : tX} {d : tD} {c : tC} {u : tU} {t : tT} {a : tG} {b : tG} {m : tM} {o : tO} {E : List rn_C}   {K : rn_K} {z1 : Int32} (hx : Rn Z M_Dr_lineCount 32 [none, some (.int z1), none] [] (emb g1 g2 x d c u t a b m o E) 0 0 K) (n : Nat) : ∀ (l1 : Int32) (l2 : Int32), F_Dr_lineCount_L4 d n l1 l2 = some z1 → Rn Z M_Dr_lineCount 4 [some (.ref 2), some (.int l1), some (.int l2)] [] (emb g1 g2 x d c u t a b m o E) 0 0 K := by
  induction n with
  | zero =>
    intro l1 l2 h
    rw [F_Dr_lineCount_L4] at h
    cases h
  | succ n ih =>
    intro l1 l2 h
    rw [F_Dr_lineCount_L4] at h
    refine rn_iload_n (by exact dc_Dr_lineCount 4 rfl) (by exact rfl) ?_
    refine rn_aload_n (by exact dc_Dr_lineCount 5 rfl) (by exact rfl) ?_
    refine rn_getf (v := .int (D_length d)) fd_Dr_15 (by exact dc_Dr_lineCount 6 rfl) (by exact rfl) (by exact rfl) ?_
    by_cases c1 : (D_length d) ≤ l2
    · replace h := rn_ifp c1 h
      refine rn_icmp_ge_t 32 (by exact dc_Dr_lineCount 7 rfl) (by exact rfl) c1 ?_
      cases h
      exact rn_weak _ (by repeat (first | exact rn_le_0 | apply rn_le_s | apply rn_le_x)) hx
    · replace h := rn_ifn c1 h
      refine rn_icmp_ge_f 32 (by exact dc_Dr_lineCount 7 rfl) (by exact rfl) c1 ?_
      refine rn_aload_n (by exact dc_Dr_lineCount 8 rfl) (by exact rfl) ?_
      refine rn_getf (v := .ref 3) fd_Dr_9 (by exact dc_Dr_lineCount 9 rfl) (by exact rfl) (by exact rfl) ?_
      refine rn_iload_n (by exact dc_Dr_lineCount 10 rfl) (by exact rfl) ?_
      obtain ⟨x2, e3, h4⟩ := rn_bind h
      clear h
      refine rn_caload (by exact dc_Dr_lineCount 11 rfl) (by exact rfl) e3 ?_
      refine rn_bipush (v := (10 : Int32)) (by exact dc_Dr_lineCount 12 rfl) (by decide) ?_
      obtain ⟨y5, e6, h8⟩ := rn_bind h4
      clear h4
      have jq7 : Rn Z M_Dr_lineCount 26 [some (.ref 2), some (.int y5), some (.int l2)] [] (emb g1 g2 x d c u t a b m o E) 0 0 K := by
        refine rn_iinc (ls' := [some (.ref 2), some (.int y5), some (.int (l2 + 1))]) (by exact dc_Dr_lineCount 15 rfl) (by decide) (by exact rfl) (by exact rn_inc_1 _) (by exact rfl) ?_
        refine rn_goto 4 (by exact dc_Dr_lineCount 16 rfl) (by exact rfl) ?_
        exact rn_weak _ (by repeat (first | exact rn_le_0 | apply rn_le_s | apply rn_le_x)) (ih _ _ h8)
      by_cases c9 : ¬ x2 = (10 : Int32)
      · replace e6 := rn_ifp c9 e6
        refine rn_icmp_ne_t 26 (by exact dc_Dr_lineCount 13 rfl) (by exact rfl) c9 ?_
        cases e6
        exact rn_weak _ (by repeat (first | exact rn_le_0 | apply rn_le_s | apply rn_le_x)) jq7
      · replace e6 := rn_ifn c9 e6
        refine rn_icmp_ne_f 26 (by exact dc_Dr_lineCount 13 rfl) (by exact rfl) (Classical.not_not.mp c9) ?_
        refine rn_iinc (ls' := [some (.ref 2), some (.int (l1 + 1)), some (.int l2)]) (by exact dc_Dr_lineCount 14 rfl) (by decide) (by exact rfl) (by exact rn_inc_1 _) (by exact rfl) ?_
        cases e6
        exact rn_weak _ (by repeat (first | exact rn_le_0 | apply rn_le_s | apply rn_le_x)) jq7
def F_Dr_lineCount (d : tD)  : Option Int32 :=
  Option.bind (F_Dr_lineCount_L4 d rn_fu (1 : Int32) (0 : Int32)) fun y4 =>
  some y4
set_option maxHeartbeats 4000000 in
set_option maxRecDepth 100000 in
theorem c_Dr_lineCount {Z : rn_Z} {g1 g2 : Nat} {x : tX} {d : tD} {c : tC} {u : tU} {t : tT} {a : tG} {b : tG} {m : tM} {o : tO} {E : List rn_C}  {res : Int32} (h : F_Dr_lineCount d  = some res) : Call Z M_Dr_lineCount [.ref 2] (emb g1 g2 x d c u t a b m o E) 0 0 (some (.int res)) (emb g1 g2 x d c u t a b m o E) := by
  unfold F_Dr_lineCount at h
  refine rn_call (by decide) 2 (by exact Nat.le_of_ble_eq_true rfl) ?_
  show Rn Z M_Dr_lineCount 0 [some (.ref 2), none, none] [] (emb g1 g2 x d c u t a b m o E) 0 0 _
  refine rn_iconst (v := (1 : Int32)) (by exact dc_Dr_lineCount 0 rfl) (by decide) ?_
  refine rn_istore_n (ls' := [some (.ref 2), some (.int (1 : Int32)), none]) (by exact dc_Dr_lineCount 1 rfl) (by decide) (by exact rfl) ?_
  refine rn_iconst (v := (0 : Int32)) (by exact dc_Dr_lineCount 2 rfl) (by decide) ?_
  refine rn_istore_n (ls' := [some (.ref 2), some (.int (1 : Int32)), some (.int (0 : Int32))]) (by exact dc_Dr_lineCount 3 rfl) (by decide) (by exact rfl) ?_
  obtain ⟨y4, e1, h3⟩ := rn_bind h
  clear h
  have jx2 : Rn Z M_Dr_lineCount 32 [none, some (.int y4), none] [] (emb g1 g2 x d c u t a b m o E) 0 0 (rn_Ret Z (some (.int res)) (emb g1 g2 x d c u t a b m o E)) := by
    refine rn_iload_n (by exact dc_Dr_lineCount 17 rfl) (by exact rfl) ?_
    cases h3
    exact rn_ireturn (by exact dc_Dr_lineCount 18 rfl) (by exact rfl)
  exact rn_weak _ (by repeat (first | exact rn_le_0 | apply rn_le_s | apply rn_le_x)) (p_Dr_lineCount_L4 jx2 _ _ _ e1)
def F_Dr_lineEnd_L2 (d : tD) : Nat → Int32 → Option (Int32 ⊕ Unit)
  | 0, _ => none
  | n + 1, l2 =>
    if (D_length d) ≤ l2 then (
      some (.inr ())
    ) else (
      Option.bind (aG (D_characters d) 300 l2) fun x2 =>
      if ¬ x2 = (10 : Int32) then (
        F_Dr_lineEnd_L2 d n (l2 + 1)
      ) else (
        some (.inl l2)
      )
    )
set_option maxHeartbeats 4000000 in
set_option maxRecDepth 100000 in
theorem p_Dr_lineEnd_L2 {Z : rn_Z} {g1 g2 : Nat} {x : tX} {d : tD} {c : tC} {u : tU} {t : tT} {a : tG} {b : tG} {m : tM} {o : tO} {E : List rn_C}   {K : rn_K} {out : (Int32 ⊕ Unit)} (hx : out = .inr () → Rn Z M_Dr_lineEnd 29 [some (.ref 2), none, none] [] (emb g1 g2 x d c u t a b m o E) 0 0 K) (hr : ∀ (rv : Int32), out = .inl rv → K = rn_Ret Z (some (.int rv)) (emb g1 g2 x d c u t a b m o E)) (n : Nat) : ∀ (l2 : Int32), F_Dr_lineEnd_L2 d n l2 = some out → Rn Z M_Dr_lineEnd 2 [some (.ref 2), none, some (.int l2)] [] (emb g1 g2 x d c u t a b m o E) 0 0 K := by
  induction n with
  | zero =>
    intro l2 h
    rw [F_Dr_lineEnd_L2] at h
    cases h
  | succ n ih =>
    intro l2 h
    rw [F_Dr_lineEnd_L2] at h
    refine rn_iload_n (by exact dc_Dr_lineEnd 2 rfl) (by exact rfl) ?_
    refine rn_aload_n (by exact dc_Dr_lineEnd 3 rfl) (by exact rfl) ?_
    refine rn_getf (v := .int (D_length d)) fd_Dr_15 (by exact dc_Dr_lineEnd 4 rfl) (by exact rfl) (by exact rfl) ?_
    by_cases c1 : (D_length d) ≤ l2
    · replace h := rn_ifp c1 h
      refine rn_icmp_ge_t 29 (by exact dc_Dr_lineEnd 5 rfl) (by exact rfl) c1 ?_
      cases h
      exact rn_weak _ (by repeat (first | exact rn_le_0 | apply rn_le_s | apply rn_le_x)) (hx rfl)
    · replace h := rn_ifn c1 h
      refine rn_icmp_ge_f 29 (by exact dc_Dr_lineEnd 5 rfl) (by exact rfl) c1 ?_
      refine rn_aload_n (by exact dc_Dr_lineEnd 6 rfl) (by exact rfl) ?_
      refine rn_getf (v := .ref 3) fd_Dr_9 (by exact dc_Dr_lineEnd 7 rfl) (by exact rfl) (by exact rfl) ?_
      refine rn_iload_n (by exact dc_Dr_lineEnd 8 rfl) (by exact rfl) ?_
      obtain ⟨x2, e3, h4⟩ := rn_bind h
      clear h
      refine rn_caload (by exact dc_Dr_lineEnd 9 rfl) (by exact rfl) e3 ?_
      refine rn_bipush (v := (10 : Int32)) (by exact dc_Dr_lineEnd 10 rfl) (by decide) ?_
      by_cases c5 : ¬ x2 = (10 : Int32)
      · replace h4 := rn_ifp c5 h4
        refine rn_icmp_ne_t 23 (by exact dc_Dr_lineEnd 11 rfl) (by exact rfl) c5 ?_
        refine rn_iinc (ls' := [some (.ref 2), none, some (.int (l2 + 1))]) (by exact dc_Dr_lineEnd 14 rfl) (by decide) (by exact rfl) (by exact rn_inc_1 _) (by exact rfl) ?_
        refine rn_goto 2 (by exact dc_Dr_lineEnd 15 rfl) (by exact rfl) ?_
        exact rn_weak _ (by repeat (first | exact rn_le_0 | apply rn_le_s | apply rn_le_x)) (ih _ h4)
      · replace h4 := rn_ifn c5 h4
        refine rn_icmp_ne_f 23 (by exact dc_Dr_lineEnd 11 rfl) (by exact rfl) (Classical.not_not.mp c5) ?_
        refine rn_iload_n (by exact dc_Dr_lineEnd 12 rfl) (by exact rfl) ?_
        cases h4
        have hK := hr _ rfl
        subst hK
        exact rn_ireturn (by exact dc_Dr_lineEnd 13 rfl) (by exact rfl)
def F_Dr_lineEnd (d : tD) (v0 : Int32) : Option Int32 :=
  Option.bind (F_Dr_lineEnd_L2 d rn_fu v0) fun z5 =>
  match z5 with
  | .inl r4 => some r4
  | .inr _ =>
    some (D_length d)
set_option maxHeartbeats 4000000 in
set_option maxRecDepth 100000 in
theorem c_Dr_lineEnd {Z : rn_Z} {g1 g2 : Nat} {x : tX} {d : tD} {c : tC} {u : tU} {t : tT} {a : tG} {b : tG} {m : tM} {o : tO} {E : List rn_C} {v0 : Int32} {res : Int32} (h : F_Dr_lineEnd d v0 = some res) : Call Z M_Dr_lineEnd [.ref 2, .int v0] (emb g1 g2 x d c u t a b m o E) 0 0 (some (.int res)) (emb g1 g2 x d c u t a b m o E) := by
  unfold F_Dr_lineEnd at h
  refine rn_call (by decide) 1 (by exact Nat.le_of_ble_eq_true rfl) ?_
  show Rn Z M_Dr_lineEnd 0 [some (.ref 2), some (.int v0), none] [] (emb g1 g2 x d c u t a b m o E) 0 0 _
  refine rn_iload_n (by exact dc_Dr_lineEnd 0 rfl) (by exact rfl) ?_
  refine rn_istore_n (ls' := [some (.ref 2), some (.int v0), some (.int v0)]) (by exact dc_Dr_lineEnd 1 rfl) (by decide) (by exact rfl) ?_
  obtain ⟨z5, e1, h3⟩ := rn_bind h
  clear h
  rcases z5 with w6 | _
  · dsimp only at h3
    cases h3
    exact rn_weak _ (by repeat (first | exact rn_le_0 | apply rn_le_s | apply rn_le_x)) (p_Dr_lineEnd_L2 (fun q => by cases q) (fun _ q => by cases q; rfl) _ _ e1)
  · dsimp only at h3
    have jx2 : Rn Z M_Dr_lineEnd 29 [some (.ref 2), none, none] [] (emb g1 g2 x d c u t a b m o E) 0 0 (rn_Ret Z (some (.int res)) (emb g1 g2 x d c u t a b m o E)) := by
      refine rn_aload_n (by exact dc_Dr_lineEnd 16 rfl) (by exact rfl) ?_
      refine rn_getf (v := .int (D_length d)) fd_Dr_15 (by exact dc_Dr_lineEnd 17 rfl) (by exact rfl) (by exact rfl) ?_
      cases h3
      exact rn_ireturn (by exact dc_Dr_lineEnd 18 rfl) (by exact rfl)
    exact rn_weak _ (by repeat (first | exact rn_le_0 | apply rn_le_s | apply rn_le_x)) (p_Dr_lineEnd_L2 (fun q => by cases q; exact jx2) (fun _ q => by cases q) _ _ e1)
def F_Gr_clear (b : tG)  : Option tG :=
  some (G_heads b, G_bodies b, G_bodyLengths b, G_weights b, G_costs b, G_capitals b, G_order b, (0 : Int32), (0 : Int32), G_reached b)
set_option maxHeartbeats 4000000 in
set_option maxRecDepth 100000 in
theorem c_Gr_clear_b {Z : rn_Z} {g1 g2 : Nat} {x : tX} {d : tD} {c : tC} {u : tU} {t : tT} {a : tG} {b : tG} {m : tM} {o : tO} {E : List rn_C}  {bR : tG} (h : F_Gr_clear b  = some bR) : Call Z M_Gr_clear [.ref 44] (emb g1 g2 x d c u t a b m o E) 0 0 none (emb g1 g2 x d c u t a bR m o E) := by
  unfold F_Gr_clear at h
  refine rn_call (by decide) 0 (by exact Nat.le_of_ble_eq_true rfl) ?_
  show Rn Z M_Gr_clear 0 [some (.ref 44)] [] (emb g1 g2 x d c u t a b m o E) 0 0 _
  refine rn_aload_n (by exact dc_Gr_clear 0 rfl) (by exact rfl) ?_
  refine rn_iconst (v := (0 : Int32)) (by exact dc_Gr_clear 1 rfl) (by decide) ?_
  refine rn_putf (w2 := (emb g1 g2 x d c u t a (G_heads b, G_bodies b, G_bodyLengths b, G_weights b, G_costs b, G_capitals b, G_order b, (0 : Int32), G_nonterminalCount b, G_reached b) m o E)) fd_Gr_34 (by exact dc_Gr_clear 2 rfl) (by exact rfl) (by exact rfl) (by exact Nat.le_of_ble_eq_true rfl) (by exact rfl) ?_
  refine rn_aload_n (by exact dc_Gr_clear 3 rfl) (by exact rfl) ?_
  refine rn_iconst (v := (0 : Int32)) (by exact dc_Gr_clear 4 rfl) (by decide) ?_
  refine rn_putf (w2 := (emb g1 g2 x d c u t a (G_heads b, G_bodies b, G_bodyLengths b, G_weights b, G_costs b, G_capitals b, G_order b, (0 : Int32), (0 : Int32), G_reached b) m o E)) fd_Gr_38 (by exact dc_Gr_clear 5 rfl) (by exact rfl) (by exact rfl) (by exact Nat.le_of_ble_eq_true rfl) (by exact rfl) ?_
  cases h
  exact rn_return (by exact dc_Gr_clear 6 rfl) (by exact rfl)
end
section
def F_Gr_symbol (b : tG) (v0 : Int32) (v1 : Int32) : Option Int32 :=
  Option.bind (aG (G_bodies b) 48 ((v0 * (4 : Int32)) + v1)) fun x1 =>
  some x1
set_option maxHeartbeats 4000000 in
set_option maxRecDepth 100000 in
theorem c_Gr_symbol_b {Z : rn_Z} {g1 g2 : Nat} {x : tX} {d : tD} {c : tC} {u : tU} {t : tT} {a : tG} {b : tG} {m : tM} {o : tO} {E : List rn_C} {v0 : Int32} {v1 : Int32} {res : Int32} (h : F_Gr_symbol b v0 v1 = some res) : Call Z M_Gr_symbol [.ref 44, .int v0, .int v1] (emb g1 g2 x d c u t a b m o E) 0 0 (some (.int res)) (emb g1 g2 x d c u t a b m o E) := by
  unfold F_Gr_symbol at h
  refine rn_call (by decide) 0 (by exact Nat.le_of_ble_eq_true rfl) ?_
  show Rn Z M_Gr_symbol 0 [some (.ref 44), some (.int v0), some (.int v1)] [] (emb g1 g2 x d c u t a b m o E) 0 0 _
  refine rn_aload_n (by exact dc_Gr_symbol 0 rfl) (by exact rfl) ?_
  refine rn_getf (v := .ref 46) fd_Gr_15 (by exact dc_Gr_symbol 1 rfl) (by exact rfl) (by exact rfl) ?_
  refine rn_iload_n (by exact dc_Gr_symbol 2 rfl) (by exact rfl) ?_
  refine rn_iconst (v := (4 : Int32)) (by exact dc_Gr_symbol 3 rfl) (by decide) ?_
  refine rn_imul (by exact dc_Gr_symbol 4 rfl) ?_
  refine rn_iload_n (by exact dc_Gr_symbol 5 rfl) (by exact rfl) ?_
  refine rn_iadd (by exact dc_Gr_symbol 6 rfl) ?_
  obtain ⟨x1, e2, h3⟩ := rn_bind h
  clear h
  refine rn_iaload (by exact dc_Gr_symbol 7 rfl) (by exact rfl) e2 ?_
  cases h3
  exact rn_ireturn (by exact dc_Gr_symbol 8 rfl) (by exact rfl)
def F_Gr_isNonterminal (v0 : Int32) : Option Int32 :=
  Option.bind (
    if (6 : Int32) ≤ v0 then (
      some (0 : Int32)
    ) else (
      some (1 : Int32)
    )
   : Option Int32) fun y1 =>
  Option.bind (rn_bl y1) fun y6 =>
  some y6
set_option maxHeartbeats 4000000 in
set_option maxRecDepth 100000 in
theorem c_Gr_isNonterminal {Z : rn_Z} {g1 g2 : Nat} {x : tX} {d : tD} {c : tC} {u : tU} {t : tT} {a : tG} {b : tG} {m : tM} {o : tO} {E : List rn_C} {v0 : Int32} {res : Int32} (h : F_Gr_isNonterminal  v0 = some res) : Call Z M_Gr_isNonterminal [.int v0] (emb g1 g2 x d c u t a b m o E) 0 0 (some (.int res)) (emb g1 g2 x d c u t a b m o E) := by
  unfold F_Gr_isNonterminal at h
  refine rn_call (by decide) 0 (by exact Nat.le_of_ble_eq_true rfl) ?_
  show Rn Z M_Gr_isNonterminal 0 [some (.int v0)] [] (emb g1 g2 x d c u t a b m o E) 0 0 _
  refine rn_iload_n (by exact dc_Gr_isNonterminal 0 rfl) (by exact rfl) ?_
  refine rn_bipush (v := (6 : Int32)) (by exact dc_Gr_isNonterminal 1 rfl) (by decide) ?_
  obtain ⟨y1, e2, h4⟩ := rn_bind h
  clear h
  have jq3 : Rn Z M_Gr_isNonterminal 11 [none] [.int y1] (emb g1 g2 x d c u t a b m o E) 0 0 (rn_Ret Z (some (.int res)) (emb g1 g2 x d c u t a b m o E)) := by
    obtain ⟨y6, e7, h9⟩ := rn_bind h4
    clear h4
    obtain ⟨rfl, hb8⟩ := rn_bl_some e7
    cases h9
    exact rn_zreturn (by exact dc_Gr_isNonterminal 6 rfl) (by exact rfl) hb8
  by_cases c5 : (6 : Int32) ≤ v0
  · replace e2 := rn_ifp c5 e2
    refine rn_icmp_ge_t 10 (by exact dc_Gr_isNonterminal 2 rfl) (by exact rfl) c5 ?_
    refine rn_iconst (v := (0 : Int32)) (by exact dc_Gr_isNonterminal 5 rfl) (by decide) ?_
    cases e2
    exact rn_weak _ (by repeat (first | exact rn_le_0 | apply rn_le_s | apply rn_le_x)) jq3
  · replace e2 := rn_ifn c5 e2
    refine rn_icmp_ge_f 10 (by exact dc_Gr_isNonterminal 2 rfl) (by exact rfl) c5 ?_
    refine rn_iconst (v := (1 : Int32)) (by exact dc_Gr_isNonterminal 3 rfl) (by decide) ?_
    refine rn_goto 11 (by exact dc_Gr_isNonterminal 4 rfl) (by exact rfl) ?_
    cases e2
    exact rn_weak _ (by repeat (first | exact rn_le_0 | apply rn_le_s | apply rn_le_x)) jq3
def F_Gr_hasBit (v0 : Int32) (v1 : Int32) : Option Int32 :=
  Option.bind (
    if ((v0 >>> (v1 &&& 31)) &&& (1 : Int32)) = 0 then (
      some (0 : Int32)
    ) else (
      some (1 : Int32)
    )
   : Option Int32) fun y1 =>
  Option.bind (rn_bl y1) fun y6 =>
  some y6
set_option maxHeartbeats 4000000 in
set_option maxRecDepth 100000 in
theorem c_Gr_hasBit {Z : rn_Z} {g1 g2 : Nat} {x : tX} {d : tD} {c : tC} {u : tU} {t : tT} {a : tG} {b : tG} {m : tM} {o : tO} {E : List rn_C} {v0 : Int32} {v1 : Int32} {res : Int32} (h : F_Gr_hasBit  v0 v1 = some res) : Call Z M_Gr_hasBit [.int v0, .int v1] (emb g1 g2 x d c u t a b m o E) 0 0 (some (.int res)) (emb g1 g2 x d c u t a b m o E) := by
  unfold F_Gr_hasBit at h
  refine rn_call (by decide) 0 (by exact Nat.le_of_ble_eq_true rfl) ?_
  show Rn Z M_Gr_hasBit 0 [some (.int v0), some (.int v1)] [] (emb g1 g2 x d c u t a b m o E) 0 0 _
  refine rn_iload_n (by exact dc_Gr_hasBit 0 rfl) (by exact rfl) ?_
  refine rn_iload_n (by exact dc_Gr_hasBit 1 rfl) (by exact rfl) ?_
  refine rn_ishr (by exact dc_Gr_hasBit 2 rfl) ?_
  refine rn_iconst (v := (1 : Int32)) (by exact dc_Gr_hasBit 3 rfl) (by decide) ?_
  refine rn_iand (by exact dc_Gr_hasBit 4 rfl) ?_
  obtain ⟨y1, e2, h4⟩ := rn_bind h
  clear h
  have jq3 : Rn Z M_Gr_hasBit 13 [none, none] [.int y1] (emb g1 g2 x d c u t a b m o E) 0 0 (rn_Ret Z (some (.int res)) (emb g1 g2 x d c u t a b m o E)) := by
    obtain ⟨y6, e7, h9⟩ := rn_bind h4
    clear h4
    obtain ⟨rfl, hb8⟩ := rn_bl_some e7
    cases h9
    exact rn_zreturn (by exact dc_Gr_hasBit 9 rfl) (by exact rfl) hb8
  by_cases c5 : ((v0 >>> (v1 &&& 31)) &&& (1 : Int32)) = 0
  · replace e2 := rn_ifp c5 e2
    refine rn_if_eq_t 12 (by exact dc_Gr_hasBit 5 rfl) (by exact rfl) c5 ?_
    refine rn_iconst (v := (0 : Int32)) (by exact dc_Gr_hasBit 8 rfl) (by decide) ?_
    cases e2
    exact rn_weak _ (by repeat (first | exact rn_le_0 | apply rn_le_s | apply rn_le_x)) jq3
  · replace e2 := rn_ifn c5 e2
    refine rn_if_eq_f 12 (by exact dc_Gr_hasBit 5 rfl) (by exact rfl) c5 ?_
    refine rn_iconst (v := (1 : Int32)) (by exact dc_Gr_hasBit 6 rfl) (by decide) ?_
    refine rn_goto 13 (by exact dc_Gr_hasBit 7 rfl) (by exact rfl) ?_
    cases e2
    exact rn_weak _ (by repeat (first | exact rn_le_0 | apply rn_le_s | apply rn_le_x)) jq3
def F_Gr_vanishes_L3 (b : tG) (l1 : Int32) (l2 : Int32) (l3 : Int32) : Nat → Int32 → Option (Int32 ⊕ Unit)
  | 0, _ => none
  | n + 1, l4 =>
    Option.bind (aG (G_bodyLengths b) 12 l1) fun x1 =>
    if x1 ≤ l4 then (
      some (.inr ())
    ) else (
      Option.bind (F_Gr_symbol b l1 l4) fun x6 =>
      if l4 = l2 then (
        F_Gr_vanishes_L3 b l1 l2 l3 n (l4 + 1)
      ) else (
        Option.bind (F_Gr_isNonterminal  x6) fun x10 =>
        if x10 = 0 then (
          some (.inl (0 : Int32))
        ) else (
          Option.bind (F_Gr_hasBit  l3 x6) fun x14 =>
          if ¬ x14 = 0 then (
            F_Gr_vanishes_L3 b l1 l2 l3 n (l4 + 1)
          ) else (
            some (.inl (0 : Int32))
          )
        )
      )
    )
set_option maxHeartbeats 4000000 in
set_option maxRecDepth 100000 in
theorem p_Gr_vanishes_L3_b {Z : rn_Z} {g1 g2 : Nat} {x : tX} {d : tD} {c : tC} {u : tU} {t : tT} {a : tG} {b : tG} {m : tM} {o : tO} {E : List rn_C}  {l1 : Int32} {l2 : Int32} {l3 : Int32} {K : rn_K} {out : (Int32 ⊕ Unit)} (hx : out = .inr () → Rn Z M_Gr_vanishes 54 [none, none, none, none, none, none] [] (emb g1 g2 x d c u t a b m o E) 0 0 K) (hr : ∀ (rv : Int32), out = .inl rv → K = rn_Ret Z (some (.int rv)) (emb g1 g2 x d c u t a b m o E)) (n : Nat) : ∀ (l4 : Int32), F_Gr_vanishes_L3 b l1 l2 l3 n l4 = some out → Rn Z M_Gr_vanishes 3 [some (.ref 44), some (.int l1), some (.int l2), some (.int l3), some (.int l4), none] [] (emb g1 g2 x d c u t a b m o E) 0 0 K := by
  induction n with
  | zero =>
    intro l4 h
    rw [F_Gr_vanishes_L3] at h
    cases h
  | succ n ih =>
    intro l4 h
    rw [F_Gr_vanishes_L3] at h
    refine rn_iload (by exact dc_Gr_vanishes 2 rfl) (by exact rfl) ?_
    refine rn_aload_n (by exact dc_Gr_vanishes 3 rfl) (by exact rfl) ?_
    refine rn_getf (v := .ref 47) fd_Gr_18 (by exact dc_Gr_vanishes 4 rfl) (by exact rfl) (by exact rfl) ?_
    refine rn_iload_n (by exact dc_Gr_vanishes 5 rfl) (by exact rfl) ?_
    obtain ⟨x1, e2, h3⟩ := rn_bind h
    clear h
    refine rn_iaload (by exact dc_Gr_vanishes 6 rfl) (by exact rfl) e2 ?_
    by_cases c4 : x1 ≤ l4
    · replace h3 := rn_ifp c4 h3
      refine rn_icmp_ge_t 54 (by exact dc_Gr_vanishes 7 rfl) (by exact rfl) c4 ?_
      cases h3
      exact rn_weak _ (by repeat (first | exact rn_le_0 | apply rn_le_s | apply rn_le_x)) (hx rfl)
    · replace h3 := rn_ifn c4 h3
      refine rn_icmp_ge_f 54 (by exact dc_Gr_vanishes 7 rfl) (by exact rfl) c4 ?_
      refine rn_aload_n (by exact dc_Gr_vanishes 8 rfl) (by exact rfl) ?_
      refine rn_iload_n (by exact dc_Gr_vanishes 9 rfl) (by exact rfl) ?_
      refine rn_iload (by exact dc_Gr_vanishes 10 rfl) (by exact rfl) ?_
      obtain ⟨x6, e5, h7⟩ := rn_bind h3
      clear h3
      refine rn_invV0 (by exact c_Gr_symbol_b e5) iv_Gr_66 (by exact ⟨Nat.le_of_ble_eq_true rfl, Nat.le_of_ble_eq_true rfl⟩) (by exact dc_Gr_vanishes 11 rfl) (by exact rfl) (by exact rfl) (by exact rfl) (by exact Nat.le_of_ble_eq_true rfl) ?_
      show Rn _ _ 21 [some (.ref 44), some (.int l1), some (.int l2), some (.int l3), some (.int l4), none] [.int x6] (emb g1 g2 x d c u t a b m o E) _ _ _
      refine rn_istore (ls' := [some (.ref 44), some (.int l1), some (.int l2), some (.int l3), some (.int l4), some (.int x6)]) (by exact dc_Gr_vanishes 12 rfl) (by decide) (by exact rfl) ?_
      refine rn_iload (by exact dc_Gr_vanishes 13 rfl) (by exact rfl) ?_
      refine rn_iload_n (by exact dc_Gr_vanishes 14 rfl) (by exact rfl) ?_
      by_cases c8 : l4 = l2
      · replace h7 := rn_ifp c8 h7
        refine rn_icmp_eq_t 48 (by exact dc_Gr_vanishes 15 rfl) (by exact rfl) c8 ?_
        refine rn_iinc (ls' := [some (.ref 44), some (.int l1), some (.int l2), some (.int l3), some (.int (l4 + 1)), some (.int x6)]) (by exact dc_Gr_vanishes 25 rfl) (by decide) (by exact rfl) (by exact rn_inc_1 _) (by exact rfl) ?_
        refine rn_goto 3 (by exact dc_Gr_vanishes 26 rfl) (by exact rfl) ?_
        exact rn_weak _ (by repeat (first | exact rn_le_0 | apply rn_le_s | apply rn_le_x)) (ih _ h7)
      · replace h7 := rn_ifn c8 h7
        refine rn_icmp_eq_f 48 (by exact dc_Gr_vanishes 15 rfl) (by exact rfl) c8 ?_
        refine rn_iload (by exact dc_Gr_vanishes 16 rfl) (by exact rfl) ?_
        obtain ⟨x10, e9, h11⟩ := rn_bind h7
        clear h7
        refine rn_invS0 (by exact c_Gr_isNonterminal e9) is_Gr_70 (by exact ⟨Nat.le_of_ble_eq_true rfl, Nat.le_of_ble_eq_true rfl⟩) (by exact dc_Gr_vanishes 17 rfl) (by exact rfl) (by exact rfl) (by exact Nat.le_of_ble_eq_true rfl) ?_
        show Rn _ _ 34 [some (.ref 44), some (.int l1), some (.int l2), some (.int l3), some (.int l4), some (.int x6)] [.int x10] (emb g1 g2 x d c u t a b m o E) _ _ _
        by_cases c12 : x10 = 0
        · replace h11 := rn_ifp c12 h11
          refine rn_if_eq_t 46 (by exact dc_Gr_vanishes 18 rfl) (by exact rfl) c12 ?_
          refine rn_iconst (v := (0 : Int32)) (by exact dc_Gr_vanishes 23 rfl) (by decide) ?_
          cases h11
          have hK := hr _ rfl
          subst hK
          exact rn_zreturn (by exact dc_Gr_vanishes 24 rfl) (by exact rfl) (by first | exact Or.inl rfl | exact Or.inr rfl)
        · replace h11 := rn_ifn c12 h11
          refine rn_if_eq_f 46 (by exact dc_Gr_vanishes 18 rfl) (by exact rfl) c12 ?_
          refine rn_iload_n (by exact dc_Gr_vanishes 19 rfl) (by exact rfl) ?_
          refine rn_iload (by exact dc_Gr_vanishes 20 rfl) (by exact rfl) ?_
          obtain ⟨x14, e13, h15⟩ := rn_bind h11
          clear h11
          refine rn_invS0 (by exact c_Gr_hasBit e13) is_Gr_52 (by exact ⟨Nat.le_of_ble_eq_true rfl, Nat.le_of_ble_eq_true rfl⟩) (by exact dc_Gr_vanishes 21 rfl) (by exact rfl) (by exact rfl) (by exact Nat.le_of_ble_eq_true rfl) ?_
          show Rn _ _ 43 [some (.ref 44), some (.int l1), some (.int l2), some (.int l3), some (.int l4), some (.int x6)] [.int x14] (emb g1 g2 x d c u t a b m o E) _ _ _
          by_cases c16 : ¬ x14 = 0
          · replace h15 := rn_ifp c16 h15
            refine rn_if_ne_t 48 (by exact dc_Gr_vanishes 22 rfl) (by exact rfl) c16 ?_
            refine rn_iinc (ls' := [some (.ref 44), some (.int l1), some (.int l2), some (.int l3), some (.int (l4 + 1)), some (.int x6)]) (by exact dc_Gr_vanishes 25 rfl) (by decide) (by exact rfl) (by exact rn_inc_1 _) (by exact rfl) ?_
            refine rn_goto 3 (by exact dc_Gr_vanishes 26 rfl) (by exact rfl) ?_
            exact rn_weak _ (by repeat (first | exact rn_le_0 | apply rn_le_s | apply rn_le_x)) (ih _ h15)
          · replace h15 := rn_ifn c16 h15
            refine rn_if_ne_f 48 (by exact dc_Gr_vanishes 22 rfl) (by exact rfl) (Classical.not_not.mp c16) ?_
            refine rn_iconst (v := (0 : Int32)) (by exact dc_Gr_vanishes 23 rfl) (by decide) ?_
            cases h15
            have hK := hr _ rfl
            subst hK
            exact rn_zreturn (by exact dc_Gr_vanishes 24 rfl) (by exact rfl) (by first | exact Or.inl rfl | exact Or.inr rfl)
def F_Gr_vanishes (b : tG) (v0 : Int32) (v1 : Int32) (v2 : Int32) : Option Int32 :=
  Option.bind (F_Gr_vanishes_L3 b v0 v1 v2 rn_fu (0 : Int32)) fun z5 =>
  match z5 with
  | .inl r4 => some r4
  | .inr _ =>
    some (1 : Int32)
set_option maxHeartbeats 4000000 in
set_option maxRecDepth 100000 in
theorem c_Gr_vanishes_b {Z : rn_Z} {g1 g2 : Nat} {x : tX} {d : tD} {c : tC} {u : tU} {t : tT} {a : tG} {b : tG} {m : tM} {o : tO} {E : List rn_C} {v0 : Int32} {v1 : Int32} {v2 : Int32} {res : Int32} (h : F_Gr_vanishes b v0 v1 v2 = some res) : Call Z M_Gr_vanishes [.ref 44, .int v0, .int v1, .int v2] (emb g1 g2 x d c u t a b m o E) 0 0 (some (.int res)) (emb g1 g2 x d c u t a b m o E) := by
  unfold F_Gr_vanishes at h
  refine rn_call (by decide) 2 (by exact Nat.le_of_ble_eq_true rfl) ?_
  show Rn Z M_Gr_vanishes 0 [some (.ref 44), some (.int v0), some (.int v1), some (.int v2), none, none] [] (emb g1 g2 x d c u t a b m o E) 0 0 _
  refine rn_iconst (v := (0 : Int32)) (by exact dc_Gr_vanishes 0 rfl) (by decide) ?_
  refine rn_istore (ls' := [some (.ref 44), some (.int v0), some (.int v1), some (.int v2), some (.int (0 : Int32)), none]) (by exact dc_Gr_vanishes 1 rfl) (by decide) (by exact rfl) ?_
  obtain ⟨z5, e1, h3⟩ := rn_bind h
  clear h
  rcases z5 with w6 | _
  · dsimp only at h3
    cases h3
    exact rn_weak _ (by repeat (first | exact rn_le_0 | apply rn_le_s | apply rn_le_x)) (p_Gr_vanishes_L3_b (fun q => by cases q) (fun _ q => by cases q; rfl) _ _ e1)
  · dsimp only at h3
    have jx2 : Rn Z M_Gr_vanishes 54 [none, none, none, none, none, none] [] (emb g1 g2 x d c u t a b m o E) 0 0 (rn_Ret Z (some (.int res)) (emb g1 g2 x d c u t a b m o E)) := by
      refine rn_iconst (v := (1 : Int32)) (by exact dc_Gr_vanishes 27 rfl) (by decide) ?_
      cases h3
      exact rn_zreturn (by exact dc_Gr_vanishes 28 rfl) (by exact rfl) (by first | exact Or.inl rfl | exact Or.inr rfl)
    exact rn_weak _ (by repeat (first | exact rn_le_0 | apply rn_le_s | apply rn_le_x)) (p_Gr_vanishes_L3_b (fun q => by cases q; exact jx2) (fun _ q => by cases q) _ _ e1)
def F_Gr_emptyable_L14 (b : tG) (l2 : Int32) : Nat → Int32 → Int32 → Option Int32
  | 0, _, _ => none
  | n + 1, l1, l3 =>
    if (G_ruleCount b) ≤ l3 then (
      some l1
    ) else (
      Option.bind (F_Gr_vanishes b l3 (-1 : Int32) l1) fun x3 =>
      Option.bind (
        if x3 = 0 then (
          some (l1 : Int32)
        ) else (
          Option.bind (aG (G_heads b) 12 l3) fun x10 =>
          some (l1 ||| ((1 : Int32) <<< (x10 &&& 31)) : Int32)
        )
       : Option Int32) fun y5 =>
      F_Gr_emptyable_L14 b l2 n y5 (l3 + 1)
    )
set_option maxHeartbeats 4000000 in
set_option maxRecDepth 100000 in
theorem p_Gr_emptyable_L14_b {Z : rn_Z} {g1 g2 : Nat} {x : tX} {d : tD} {c : tC} {u : tU} {t : tT} {a : tG} {b : tG} {m : tM} {o : tO} {E : List rn_C}  {l2 : Int32} {K : rn_K} {z1 : Int32} (hx : Rn Z M_Gr_emptyable 49 [some (.ref 44), some (.int z1), some (.int l2), none] [] (emb g1 g2 x d c u t a b m o E) 0 0 K) (n : Nat) : ∀ (l1 : Int32) (l3 : Int32), F_Gr_emptyable_L14 b l2 n l1 l3 = some z1 → Rn Z M_Gr_emptyable 14 [some (.ref 44), some (.int l1), some (.int l2), some (.int l3)] [] (emb g1 g2 x d c u t a b m o E) 0 0 K := by
  induction n with
  | zero =>
    intro l1 l3 h
    rw [F_Gr_emptyable_L14] at h
    cases h
  | succ n ih =>
    intro l1 l3 h
    rw [F_Gr_emptyable_L14] at h
    refine rn_iload_n (by exact dc_Gr_emptyable 10 rfl) (by exact rfl) ?_
    refine rn_aload_n (by exact dc_Gr_emptyable 11 rfl) (by exact rfl) ?_
    refine rn_getf (v := .int (G_ruleCount b)) fd_Gr_34 (by exact dc_Gr_emptyable 12 rfl) (by exact rfl) (by exact rfl) ?_
    by_cases c1 : (G_ruleCount b) ≤ l3
    · replace h := rn_ifp c1 h
      refine rn_icmp_ge_t 49 (by exact dc_Gr_emptyable 13 rfl) (by exact rfl) c1 ?_
      cases h
      exact rn_weak _ (by repeat (first | exact rn_le_0 | apply rn_le_s | apply rn_le_x)) hx
    · replace h := rn_ifn c1 h
      refine rn_icmp_ge_f 49 (by exact dc_Gr_emptyable 13 rfl) (by exact rfl) c1 ?_
      refine rn_aload_n (by exact dc_Gr_emptyable 14 rfl) (by exact rfl) ?_
      refine rn_iload_n (by exact dc_Gr_emptyable 15 rfl) (by exact rfl) ?_
      refine rn_iconst (v := (-1 : Int32)) (by exact dc_Gr_emptyable 16 rfl) (by decide) ?_
      refine rn_iload_n (by exact dc_Gr_emptyable 17 rfl) (by exact rfl) ?_
      obtain ⟨x3, e2, h4⟩ := rn_bind h
      clear h
      refine rn_invV0 (by exact c_Gr_vanishes_b e2) iv_Gr_62 (by exact ⟨Nat.le_of_ble_eq_true rfl, Nat.le_of_ble_eq_true rfl⟩) (by exact dc_Gr_emptyable 18 rfl) (by exact rfl) (by exact rfl) (by exact rfl) (by exact Nat.le_of_ble_eq_true rfl) ?_
      show Rn _ _ 29 [some (.ref 44), some (.int l1), some (.int l2), some (.int l3)] [.int x3] (emb g1 g2 x d c u t a b m o E) _ _ _
      obtain ⟨y5, e6, h8⟩ := rn_bind h4
      clear h4
      have jq7 : Rn Z M_Gr_emptyable 43 [some (.ref 44), some (.int y5), some (.int l2), some (.int l3)] [] (emb g1 g2 x d c u t a b m o E) 0 0 K := by
        refine rn_iinc (ls' := [some (.ref 44), some (.int y5), some (.int l2), some (.int (l3 + 1))]) (by exact dc_Gr_emptyable 29 rfl) (by decide) (by exact rfl) (by exact rn_inc_1 _) (by exact rfl) ?_
        refine rn_goto 14 (by exact dc_Gr_emptyable 30 rfl) (by exact rfl) ?_
        exact rn_weak _ (by repeat (first | exact rn_le_0 | apply rn_le_s | apply rn_le_x)) (ih _ _ h8)
      by_cases c9 : x3 = 0
      · replace e6 := rn_ifp c9 e6
        refine rn_if_eq_t 43 (by exact dc_Gr_emptyable 19 rfl) (by exact rfl) c9 ?_
        cases e6
        exact rn_weak _ (by repeat (first | exact rn_le_0 | apply rn_le_s | apply rn_le_x)) jq7
      · replace e6 := rn_ifn c9 e6
        refine rn_if_eq_f 43 (by exact dc_Gr_emptyable 19 rfl) (by exact rfl) c9 ?_
        refine rn_iload_n (by exact dc_Gr_emptyable 20 rfl) (by exact rfl) ?_
        refine rn_iconst (v := (1 : Int32)) (by exact dc_Gr_emptyable 21 rfl) (by decide) ?_
        refine rn_aload_n (by exact dc_Gr_emptyable 22 rfl) (by exact rfl) ?_
        refine rn_getf (v := .ref 45) fd_Gr_9 (by exact dc_Gr_emptyable 23 rfl) (by exact rfl) (by exact rfl) ?_
        refine rn_iload_n (by exact dc_Gr_emptyable 24 rfl) (by exact rfl) ?_
        obtain ⟨x10, e11, h12⟩ := rn_bind e6
        clear e6
        refine rn_iaload (by exact dc_Gr_emptyable 25 rfl) (by exact rfl) e11 ?_
        refine rn_ishl (by exact dc_Gr_emptyable 26 rfl) ?_
        refine rn_ior (by exact dc_Gr_emptyable 27 rfl) ?_
        refine rn_istore_n (ls' := [some (.ref 44), some (.int (l1 ||| ((1 : Int32) <<< (x10 &&& 31)))), some (.int l2), some (.int l3)]) (by exact dc_Gr_emptyable 28 rfl) (by decide) (by exact rfl) ?_
        cases h12
        exact rn_weak _ (by repeat (first | exact rn_le_0 | apply rn_le_s | apply rn_le_x)) jq7
def F_Gr_emptyable_L4 (b : tG) : Nat → Int32 → Int32 → Option Int32
  | 0, _, _ => none
  | n + 1, l1, l2 =>
    if (G_nonterminalCount b) ≤ l2 then (
      some l1
    ) else (
      Option.bind (F_Gr_emptyable_L14 b l2 rn_fu l1 (0 : Int32)) fun y5 =>
      F_Gr_emptyable_L4 b n y5 (l2 + 1)
    )
set_option maxHeartbeats 4000000 in
set_option maxRecDepth 100000 in
theorem p_Gr_emptyable_L4_b {Z : rn_Z} {g1 g2 : Nat} {x : tX} {d : tD} {c : tC} {u : tU} {t : tT} {a : tG} {b : tG} {m : tM} {o : tO} {E : List rn_C}   {K : rn_K} {z1 : Int32} (hx : Rn Z M_Gr_emptyable 55 [none, some (.int z1), none, none] [] (emb g1 g2 x d c u t a b m o E) 0 0 K) (n : Nat) : ∀ (l1 : Int32) (l2 : Int32), F_Gr_emptyable_L4 b n l1 l2 = some z1 → Rn Z M_Gr_emptyable 4 [some (.ref 44), some (.int l1), some (.int l2), none] [] (emb g1 g2 x d c u t a b m o E) 0 0 K := by
  induction n with
  | zero =>
    intro l1 l2 h
    rw [F_Gr_emptyable_L4] at h
    cases h
  | succ n ih =>
    intro l1 l2 h
    rw [F_Gr_emptyable_L4] at h
    refine rn_iload_n (by exact dc_Gr_emptyable 4 rfl) (by exact rfl) ?_
    refine rn_aload_n (by exact dc_Gr_emptyable 5 rfl) (by exact rfl) ?_
    refine rn_getf (v := .int (G_nonterminalCount b)) fd_Gr_38 (by exact dc_Gr_emptyable 6 rfl) (by exact rfl) (by exact rfl) ?_
    by_cases c1 : (G_nonterminalCount b) ≤ l2
    · replace h := rn_ifp c1 h
      refine rn_icmp_ge_t 55 (by exact dc_Gr_emptyable 7 rfl) (by exact rfl) c1 ?_
      cases h
      exact rn_weak _ (by repeat (first | exact rn_le_0 | apply rn_le_s | apply rn_le_x)) hx
    · replace h := rn_ifn c1 h
      refine rn_icmp_ge_f 55 (by exact dc_Gr_emptyable 7 rfl) (by exact rfl) c1 ?_
      refine rn_iconst (v := (0 : Int32)) (by exact dc_Gr_emptyable 8 rfl) (by decide) ?_
      refine rn_istore_n (ls' := [some (.ref 44), some (.int l1), some (.int l2), some (.int (0 : Int32))]) (by exact dc_Gr_emptyable 9 rfl) (by decide) (by exact rfl) ?_
      obtain ⟨y5, e2, h4⟩ := rn_bind h
      clear h
      have jx3 : Rn Z M_Gr_emptyable 49 [some (.ref 44), some (.int y5), some (.int l2), none] [] (emb g1 g2 x d c u t a b m o E) 0 0 K := by
        refine rn_iinc (ls' := [some (.ref 44), some (.int y5), some (.int (l2 + 1)), none]) (by exact dc_Gr_emptyable 31 rfl) (by decide) (by exact rfl) (by exact rn_inc_1 _) (by exact rfl) ?_
        refine rn_goto 4 (by exact dc_Gr_emptyable 32 rfl) (by exact rfl) ?_
        exact rn_weak _ (by repeat (first | exact rn_le_0 | apply rn_le_s | apply rn_le_x)) (ih _ _ h4)
      exact rn_weak _ (by repeat (first | exact rn_le_0 | apply rn_le_s | apply rn_le_x)) (p_Gr_emptyable_L14_b jx3 _ _ _ e2)
def F_Gr_emptyable (b : tG)  : Option Int32 :=
  Option.bind (F_Gr_emptyable_L4 b rn_fu (0 : Int32) (0 : Int32)) fun y4 =>
  some y4
set_option maxHeartbeats 4000000 in
set_option maxRecDepth 100000 in
theorem c_Gr_emptyable_b {Z : rn_Z} {g1 g2 : Nat} {x : tX} {d : tD} {c : tC} {u : tU} {t : tT} {a : tG} {b : tG} {m : tM} {o : tO} {E : List rn_C}  {res : Int32} (h : F_Gr_emptyable b  = some res) : Call Z M_Gr_emptyable [.ref 44] (emb g1 g2 x d c u t a b m o E) 0 0 (some (.int res)) (emb g1 g2 x d c u t a b m o E) := by
  unfold F_Gr_emptyable at h
  refine rn_call (by decide) 3 (by exact Nat.le_of_ble_eq_true rfl) ?_
  show Rn Z M_Gr_emptyable 0 [some (.ref 44), none, none, none] [] (emb g1 g2 x d c u t a b m o E) 0 0 _
  refine rn_iconst (v := (0 : Int32)) (by exact dc_Gr_emptyable 0 rfl) (by decide) ?_
  refine rn_istore_n (ls' := [some (.ref 44), some (.int (0 : Int32)), none, none]) (by exact dc_Gr_emptyable 1 rfl) (by decide) (by exact rfl) ?_
  refine rn_iconst (v := (0 : Int32)) (by exact dc_Gr_emptyable 2 rfl) (by decide) ?_
  refine rn_istore_n (ls' := [some (.ref 44), some (.int (0 : Int32)), some (.int (0 : Int32)), none]) (by exact dc_Gr_emptyable 3 rfl) (by decide) (by exact rfl) ?_
  obtain ⟨y4, e1, h3⟩ := rn_bind h
  clear h
  have jx2 : Rn Z M_Gr_emptyable 55 [none, some (.int y4), none, none] [] (emb g1 g2 x d c u t a b m o E) 0 0 (rn_Ret Z (some (.int res)) (emb g1 g2 x d c u t a b m o E)) := by
    refine rn_iload_n (by exact dc_Gr_emptyable 33 rfl) (by exact rfl) ?_
    cases h3
    exact rn_ireturn (by exact dc_Gr_emptyable 34 rfl) (by exact rfl)
  exact rn_weak _ (by repeat (first | exact rn_le_0 | apply rn_le_s | apply rn_le_x)) (p_Gr_emptyable_L4_b jx2 _ _ _ e1)
def F_Gr_closeReached_L12 (l1 : Int32) : Nat → tG → Int32 → Option tG
  | 0, _, _ => none
  | n + 1, b, l2 =>
    if (G_nonterminalCount b) ≤ l2 then (
      some b
    ) else (
      Option.bind (aG (G_reached b) 6 l2) fun x2 =>
      Option.bind (F_Gr_hasBit  x2 l1) fun x6 =>
      Option.bind (
        if x6 = 0 then (
          some b
        ) else (
          Option.bind (aG (G_reached b) 6 l2) fun x13 =>
          Option.bind (aG (G_reached b) 6 l1) fun x16 =>
          Option.bind (aS (G_reached b) 6 l2 (x13 ||| x16)) fun f19 =>
          some (G_heads b, G_bodies b, G_bodyLengths b, G_weights b, G_costs b, G_capitals b, G_order b, G_ruleCount b, G_nonterminalCount b, f19)
        )
       : Option tG) fun b8 =>
      F_Gr_closeReached_L12 l1 n b8 (l2 + 1)
    )
set_option maxHeartbeats 4000000 in
set_option maxRecDepth 100000 in
theorem p_Gr_closeReached_L12_b {Z : rn_Z} {g1 g2 : Nat} {x : tX} {d : tD} {c : tC} {u : tU} {t : tT} {a : tG}  {m : tM} {o : tO} {E : List rn_C}  {l1 : Int32} {K : rn_K} {bz : tG} (hx : Rn Z M_Gr_closeReached 54 [some (.ref 44), some (.int l1), none] [] (emb g1 g2 x d c u t a bz m o E) 0 0 K) (n : Nat) : ∀ (b : tG) (l2 : Int32), F_Gr_closeReached_L12 l1 n b l2 = some bz → Rn Z M_Gr_closeReached 12 [some (.ref 44), some (.int l1), some (.int l2)] [] (emb g1 g2 x d c u t a b m o E) 0 0 K := by
  induction n with
  | zero =>
    intro b l2 h
    rw [F_Gr_closeReached_L12] at h
    cases h
  | succ n ih =>
    intro b l2 h
    rw [F_Gr_closeReached_L12] at h
    refine rn_iload_n (by exact dc_Gr_closeReached 8 rfl) (by exact rfl) ?_
    refine rn_aload_n (by exact dc_Gr_closeReached 9 rfl) (by exact rfl) ?_
    refine rn_getf (v := .int (G_nonterminalCount b)) fd_Gr_38 (by exact dc_Gr_closeReached 10 rfl) (by exact rfl) (by exact rfl) ?_
    by_cases c1 : (G_nonterminalCount b) ≤ l2
    · replace h := rn_ifp c1 h
      refine rn_icmp_ge_t 54 (by exact dc_Gr_closeReached 11 rfl) (by exact rfl) c1 ?_
      cases h
      exact rn_weak _ (by repeat (first | exact rn_le_0 | apply rn_le_s | apply rn_le_x)) hx
    · replace h := rn_ifn c1 h
      refine rn_icmp_ge_f 54 (by exact dc_Gr_closeReached 11 rfl) (by exact rfl) c1 ?_
      refine rn_aload_n (by exact dc_Gr_closeReached 12 rfl) (by exact rfl) ?_
      refine rn_getf (v := .ref 52) fd_Gr_41 (by exact dc_Gr_closeReached 13 rfl) (by exact rfl) (by exact rfl) ?_
      refine rn_iload_n (by exact dc_Gr_closeReached 14 rfl) (by exact rfl) ?_
      obtain ⟨x2, e3, h4⟩ := rn_bind h
      clear h
      refine rn_iaload (by exact dc_Gr_closeReached 15 rfl) (by exact rfl) e3 ?_
      refine rn_iload_n (by exact dc_Gr_closeReached 16 rfl) (by exact rfl) ?_
      obtain ⟨x6, e5, h7⟩ := rn_bind h4
      clear h4
      refine rn_invS0 (by exact c_Gr_hasBit e5) is_Gr_52 (by exact ⟨Nat.le_of_ble_eq_true rfl, Nat.le_of_ble_eq_true rfl⟩) (by exact dc_Gr_closeReached 17 rfl) (by exact rfl) (by exact rfl) (by exact Nat.le_of_ble_eq_true rfl) ?_
      show Rn _ _ 30 [some (.ref 44), some (.int l1), some (.int l2)] [.int x6] (emb g1 g2 x d c u t a b m o E) _ _ _
      obtain ⟨b8, e9, h11⟩ := rn_bind h7
      clear h7
      have jq10 : Rn Z M_Gr_closeReached 48 [some (.ref 44), some (.int l1), some (.int l2)] [] (emb g1 g2 x d c u t a b8 m o E) 0 0 K := by
        refine rn_iinc (ls' := [some (.ref 44), some (.int l1), some (.int (l2 + 1))]) (by exact dc_Gr_closeReached 30 rfl) (by decide) (by exact rfl) (by exact rn_inc_1 _) (by exact rfl) ?_
        refine rn_goto 12 (by exact dc_Gr_closeReached 31 rfl) (by exact rfl) ?_
        exact rn_weak _ (by repeat (first | exact rn_le_0 | apply rn_le_s | apply rn_le_x)) (ih _ _ h11)
      by_cases c12 : x6 = 0
      · replace e9 := rn_ifp c12 e9
        refine rn_if_eq_t 48 (by exact dc_Gr_closeReached 18 rfl) (by exact rfl) c12 ?_
        cases e9
        exact rn_weak _ (by repeat (first | exact rn_le_0 | apply rn_le_s | apply rn_le_x)) jq10
      · replace e9 := rn_ifn c12 e9
        refine rn_if_eq_f 48 (by exact dc_Gr_closeReached 18 rfl) (by exact rfl) c12 ?_
        refine rn_aload_n (by exact dc_Gr_closeReached 19 rfl) (by exact rfl) ?_
        refine rn_getf (v := .ref 52) fd_Gr_41 (by exact dc_Gr_closeReached 20 rfl) (by exact rfl) (by exact rfl) ?_
        refine rn_iload_n (by exact dc_Gr_closeReached 21 rfl) (by exact rfl) ?_
        refine rn_dup2 (by exact dc_Gr_closeReached 22 rfl) (by exact rfl) (by exact rfl) ?_
        obtain ⟨x13, e14, h15⟩ := rn_bind e9
        clear e9
        refine rn_iaload (by exact dc_Gr_closeReached 23 rfl) (by exact rfl) e14 ?_
        refine rn_aload_n (by exact dc_Gr_closeReached 24 rfl) (by exact rfl) ?_
        refine rn_getf (v := .ref 52) fd_Gr_41 (by exact dc_Gr_closeReached 25 rfl) (by exact rfl) (by exact rfl) ?_
        refine rn_iload_n (by exact dc_Gr_closeReached 26 rfl) (by exact rfl) ?_
        obtain ⟨x16, e17, h18⟩ := rn_bind h15
        clear h15
        refine rn_iaload (by exact dc_Gr_closeReached 27 rfl) (by exact rfl) e17 ?_
        refine rn_ior (by exact dc_Gr_closeReached 28 rfl) ?_
        obtain ⟨f19, e20, h21⟩ := rn_bind h18
        clear h18
        refine rn_iastore (w2 := (emb g1 g2 x d c u t a (G_heads b, G_bodies b, G_bodyLengths b, G_weights b, G_costs b, G_capitals b, G_order b, G_ruleCount b, G_nonterminalCount b, f19) m o E)) (by exact dc_Gr_closeReached 29 rfl) (by exact rfl) e20 (by exact rfl) ?_
        cases h21
        exact rn_weak _ (by repeat (first | exact rn_le_0 | apply rn_le_s | apply rn_le_x)) jq10
def F_Gr_closeReached_L2  : Nat → tG → Int32 → Option tG
  | 0, _, _ => none
  | n + 1, b, l1 =>
    if (G_nonterminalCount b) ≤ l1 then (
      some b
    ) else (
      Option.bind (F_Gr_closeReached_L12 l1 rn_fu b (0 : Int32)) fun b5 =>
      F_Gr_closeReached_L2  n b5 (l1 + 1)
    )
set_option maxHeartbeats 4000000 in
set_option maxRecDepth 100000 in
theorem p_Gr_closeReached_L2_b {Z : rn_Z} {g1 g2 : Nat} {x : tX} {d : tD} {c : tC} {u : tU} {t : tT} {a : tG}  {m : tM} {o : tO} {E : List rn_C}   {K : rn_K} {bz : tG} (hx : Rn Z M_Gr_closeReached 60 [none, none, none] [] (emb g1 g2 x d c u t a bz m o E) 0 0 K) (n : Nat) : ∀ (b : tG) (l1 : Int32), F_Gr_closeReached_L2  n b l1 = some bz → Rn Z M_Gr_closeReached 2 [some (.ref 44), some (.int l1), none] [] (emb g1 g2 x d c u t a b m o E) 0 0 K := by
  induction n with
  | zero =>
    intro b l1 h
    rw [F_Gr_closeReached_L2] at h
    cases h
  | succ n ih =>
    intro b l1 h
    rw [F_Gr_closeReached_L2] at h
    refine rn_iload_n (by exact dc_Gr_closeReached 2 rfl) (by exact rfl) ?_
    refine rn_aload_n (by exact dc_Gr_closeReached 3 rfl) (by exact rfl) ?_
    refine rn_getf (v := .int (G_nonterminalCount b)) fd_Gr_38 (by exact dc_Gr_closeReached 4 rfl) (by exact rfl) (by exact rfl) ?_
    by_cases c1 : (G_nonterminalCount b) ≤ l1
    · replace h := rn_ifp c1 h
      refine rn_icmp_ge_t 60 (by exact dc_Gr_closeReached 5 rfl) (by exact rfl) c1 ?_
      cases h
      exact rn_weak _ (by repeat (first | exact rn_le_0 | apply rn_le_s | apply rn_le_x)) hx
    · replace h := rn_ifn c1 h
      refine rn_icmp_ge_f 60 (by exact dc_Gr_closeReached 5 rfl) (by exact rfl) c1 ?_
      refine rn_iconst (v := (0 : Int32)) (by exact dc_Gr_closeReached 6 rfl) (by decide) ?_
      refine rn_istore_n (ls' := [some (.ref 44), some (.int l1), some (.int (0 : Int32))]) (by exact dc_Gr_closeReached 7 rfl) (by decide) (by exact rfl) ?_
      obtain ⟨b5, e2, h4⟩ := rn_bind h
      clear h
      have jx3 : Rn Z M_Gr_closeReached 54 [some (.ref 44), some (.int l1), none] [] (emb g1 g2 x d c u t a b5 m o E) 0 0 K := by
        refine rn_iinc (ls' := [some (.ref 44), some (.int (l1 + 1)), none]) (by exact dc_Gr_closeReached 32 rfl) (by decide) (by exact rfl) (by exact rn_inc_1 _) (by exact rfl) ?_
        refine rn_goto 2 (by exact dc_Gr_closeReached 33 rfl) (by exact rfl) ?_
        exact rn_weak _ (by repeat (first | exact rn_le_0 | apply rn_le_s | apply rn_le_x)) (ih _ _ h4)
      exact rn_weak _ (by repeat (first | exact rn_le_0 | apply rn_le_s | apply rn_le_x)) (p_Gr_closeReached_L12_b jx3 _ _ _ e2)
def F_Gr_closeReached (b : tG)  : Option tG :=
  Option.bind (F_Gr_closeReached_L2  rn_fu b (0 : Int32)) fun b4 =>
  some b4
set_option maxHeartbeats 4000000 in
set_option maxRecDepth 100000 in
theorem c_Gr_closeReached_b {Z : rn_Z} {g1 g2 : Nat} {x : tX} {d : tD} {c : tC} {u : tU} {t : tT} {a : tG} {b : tG} {m : tM} {o : tO} {E : List rn_C}  {bR : tG} (h : F_Gr_closeReached b  = some bR) : Call Z M_Gr_closeReached [.ref 44] (emb g1 g2 x d c u t a b m o E) 0 0 none (emb g1 g2 x d c u t a bR m o E) := by
  unfold F_Gr_closeReached at h
  refine rn_call (by decide) 2 (by exact Nat.le_of_ble_eq_true rfl) ?_
  show Rn Z M_Gr_closeReached 0 [some (.ref 44), none, none] [] (emb g1 g2 x d c u t a b m o E) 0 0 _
  refine rn_iconst (v := (0 : Int32)) (by exact dc_Gr_closeReached 0 rfl) (by decide) ?_
  refine rn_istore_n (ls' := [some (.ref 44), some (.int (0 : Int32)), none]) (by exact dc_Gr_closeReached 1 rfl) (by decide) (by exact rfl) ?_
  obtain ⟨b4, e1, h3⟩ := rn_bind h
  clear h
  have jx2 : Rn Z M_Gr_closeReached 60 [none, none, none] [] (emb g1 g2 x d c u t a b4 m o E) 0 0 (rn_Ret Z none (emb g1 g2 x d c u t a bR m o E)) := by
    cases h3
    exact rn_return (by exact dc_Gr_closeReached 34 rfl) (by exact rfl)
  exact rn_weak _ (by repeat (first | exact rn_le_0 | apply rn_le_s | apply rn_le_x)) (p_Gr_closeReached_L2_b jx2 _ _ _ e1)
def F_Gr_findReached_L2 (l1 : Int32) : Nat → tG → Int32 → Option tG
  | 0, _, _ => none
  | n + 1, b, l2 =>
    if (G_nonterminalCount b) ≤ l2 then (
      some b
    ) else (
      Option.bind (aS (G_reached b) 6 l2 (0 : Int32)) fun f2 =>
      F_Gr_findReached_L2 l1 n (G_heads b, G_bodies b, G_bodyLengths b, G_weights b, G_costs b, G_capitals b, G_order b, G_ruleCount b, G_nonterminalCount b, f2) (l2 + 1)
    )
set_option maxHeartbeats 4000000 in
set_option maxRecDepth 100000 in
theorem p_Gr_findReached_L2_b {Z : rn_Z} {g1 g2 : Nat} {x : tX} {d : tD} {c : tC} {u : tU} {t : tT} {a : tG}  {m : tM} {o : tO} {E : List rn_C}  {l1 : Int32} {K : rn_K} {bz : tG} (hx : Rn Z M_Gr_findReached 23 [some (.ref 44), some (.int l1), none, none, none] [] (emb g1 g2 x d c u t a bz m o E) 0 0 K) (n : Nat) : ∀ (b : tG) (l2 : Int32), F_Gr_findReached_L2 l1 n b l2 = some bz → Rn Z M_Gr_findReached 2 [some (.ref 44), some (.int l1), some (.int l2), none, none] [] (emb g1 g2 x d c u t a b m o E) 0 0 K := by
  induction n with
  | zero =>
    intro b l2 h
    rw [F_Gr_findReached_L2] at h
    cases h
  | succ n ih =>
    intro b l2 h
    rw [F_Gr_findReached_L2] at h
    refine rn_iload_n (by exact dc_Gr_findReached 2 rfl) (by exact rfl) ?_
    refine rn_aload_n (by exact dc_Gr_findReached 3 rfl) (by exact rfl) ?_
    refine rn_getf (v := .int (G_nonterminalCount b)) fd_Gr_38 (by exact dc_Gr_findReached 4 rfl) (by exact rfl) (by exact rfl) ?_
    by_cases c1 : (G_nonterminalCount b) ≤ l2
    · replace h := rn_ifp c1 h
      refine rn_icmp_ge_t 23 (by exact dc_Gr_findReached 5 rfl) (by exact rfl) c1 ?_
      cases h
      exact rn_weak _ (by repeat (first | exact rn_le_0 | apply rn_le_s | apply rn_le_x)) hx
    · replace h := rn_ifn c1 h
      refine rn_icmp_ge_f 23 (by exact dc_Gr_findReached 5 rfl) (by exact rfl) c1 ?_
      refine rn_aload_n (by exact dc_Gr_findReached 6 rfl) (by exact rfl) ?_
      refine rn_getf (v := .ref 52) fd_Gr_41 (by exact dc_Gr_findReached 7 rfl) (by exact rfl) (by exact rfl) ?_
      refine rn_iload_n (by exact dc_Gr_findReached 8 rfl) (by exact rfl) ?_
      refine rn_iconst (v := (0 : Int32)) (by exact dc_Gr_findReached 9 rfl) (by decide) ?_
      obtain ⟨f2, e3, h4⟩ := rn_bind h
      clear h
      refine rn_iastore (w2 := (emb g1 g2 x d c u t a (G_heads b, G_bodies b, G_bodyLengths b, G_weights b, G_costs b, G_capitals b, G_order b, G_ruleCount b, G_nonterminalCount b, f2) m o E)) (by exact dc_Gr_findReached 10 rfl) (by exact rfl) e3 (by exact rfl) ?_
      refine rn_iinc (ls' := [some (.ref 44), some (.int l1), some (.int (l2 + 1)), none, none]) (by exact dc_Gr_findReached 11 rfl) (by decide) (by exact rfl) (by exact rn_inc_1 _) (by exact rfl) ?_
      refine rn_goto 2 (by exact dc_Gr_findReached 12 rfl) (by exact rfl) ?_
      exact rn_weak _ (by repeat (first | exact rn_le_0 | apply rn_le_s | apply rn_le_x)) (ih _ _ h4)
def F_Gr_findReached_L35 (l1 : Int32) (l2 : Int32) : Nat → tG → Int32 → Option tG
  | 0, _, _ => none
  | n + 1, b, l3 =>
    Option.bind (aG (G_bodyLengths b) 12 l2) fun x1 =>
    if x1 ≤ l3 then (
      some b
    ) else (
      Option.bind (F_Gr_symbol b l2 l3) fun x6 =>
      Option.bind (F_Gr_isNonterminal  x6) fun x9 =>
      Option.bind (
        if x9 = 0 then (
          some b
        ) else (
          Option.bind (F_Gr_vanishes b l2 l3 l1) fun x17 =>
          if x17 = 0 then (
            some b
          ) else (
            Option.bind (aG (G_heads b) 12 l2) fun x20 =>
            Option.bind (aG (G_reached b) 6 x20) fun x23 =>
            Option.bind (aS (G_reached b) 6 x20 (x23 ||| ((1 : Int32) <<< (x6 &&& 31)))) fun f26 =>
            some (G_heads b, G_bodies b, G_bodyLengths b, G_weights b, G_costs b, G_capitals b, G_order b, G_ruleCount b, G_nonterminalCount b, f26)
          )
        )
       : Option tG) fun b11 =>
      F_Gr_findReached_L35 l1 l2 n b11 (l3 + 1)
    )
set_option maxHeartbeats 4000000 in
set_option maxRecDepth 100000 in
theorem p_Gr_findReached_L35_b {Z : rn_Z} {g1 g2 : Nat} {x : tX} {d : tD} {c : tC} {u : tU} {t : tT} {a : tG}  {m : tM} {o : tO} {E : List rn_C}  {l1 : Int32} {l2 : Int32} {K : rn_K} {bz : tG} (hx : Rn Z M_Gr_findReached 95 [some (.ref 44), some (.int l1), some (.int l2), none, none] [] (emb g1 g2 x d c u t a bz m o E) 0 0 K) (n : Nat) : ∀ (b : tG) (l3 : Int32), F_Gr_findReached_L35 l1 l2 n b l3 = some bz → Rn Z M_Gr_findReached 35 [some (.ref 44), some (.int l1), some (.int l2), some (.int l3), none] [] (emb g1 g2 x d c u t a b m o E) 0 0 K := by
  induction n with
  | zero =>
    intro b l3 h
    rw [F_Gr_findReached_L35] at h
    cases h
  | succ n ih =>
    intro b l3 h
    rw [F_Gr_findReached_L35] at h
    refine rn_iload_n (by exact dc_Gr_findReached 21 rfl) (by exact rfl) ?_
    refine rn_aload_n (by exact dc_Gr_findReached 22 rfl) (by exact rfl) ?_
    refine rn_getf (v := .ref 47) fd_Gr_18 (by exact dc_Gr_findReached 23 rfl) (by exact rfl) (by exact rfl) ?_
    refine rn_iload_n (by exact dc_Gr_findReached 24 rfl) (by exact rfl) ?_
    obtain ⟨x1, e2, h3⟩ := rn_bind h
    clear h
    refine rn_iaload (by exact dc_Gr_findReached 25 rfl) (by exact rfl) e2 ?_
    by_cases c4 : x1 ≤ l3
    · replace h3 := rn_ifp c4 h3
      refine rn_icmp_ge_t 95 (by exact dc_Gr_findReached 26 rfl) (by exact rfl) c4 ?_
      cases h3
      exact rn_weak _ (by repeat (first | exact rn_le_0 | apply rn_le_s | apply rn_le_x)) hx
    · replace h3 := rn_ifn c4 h3
      refine rn_icmp_ge_f 95 (by exact dc_Gr_findReached 26 rfl) (by exact rfl) c4 ?_
      refine rn_aload_n (by exact dc_Gr_findReached 27 rfl) (by exact rfl) ?_
      refine rn_iload_n (by exact dc_Gr_findReached 28 rfl) (by exact rfl) ?_
      refine rn_iload_n (by exact dc_Gr_findReached 29 rfl) (by exact rfl) ?_
      obtain ⟨x6, e5, h7⟩ := rn_bind h3
      clear h3
      refine rn_invV0 (by exact c_Gr_symbol_b e5) iv_Gr_66 (by exact ⟨Nat.le_of_ble_eq_true rfl, Nat.le_of_ble_eq_true rfl⟩) (by exact dc_Gr_findReached 30 rfl) (by exact rfl) (by exact rfl) (by exact rfl) (by exact Nat.le_of_ble_eq_true rfl) ?_
      show Rn _ _ 51 [some (.ref 44), some (.int l1), some (.int l2), some (.int l3), none] [.int x6] (emb g1 g2 x d c u t a b m o E) _ _ _
      refine rn_istore (ls' := [some (.ref 44), some (.int l1), some (.int l2), some (.int l3), some (.int x6)]) (by exact dc_Gr_findReached 31 rfl) (by decide) (by exact rfl) ?_
      refine rn_iload (by exact dc_Gr_findReached 32 rfl) (by exact rfl) ?_
      obtain ⟨x9, e8, h10⟩ := rn_bind h7
      clear h7
      refine rn_invS0 (by exact c_Gr_isNonterminal e8) is_Gr_70 (by exact ⟨Nat.le_of_ble_eq_true rfl, Nat.le_of_ble_eq_true rfl⟩) (by exact dc_Gr_findReached 33 rfl) (by exact rfl) (by exact rfl) (by exact Nat.le_of_ble_eq_true rfl) ?_
      show Rn _ _ 58 [some (.ref 44), some (.int l1), some (.int l2), some (.int l3), some (.int x6)] [.int x9] (emb g1 g2 x d c u t a b m o E) _ _ _
      obtain ⟨b11, e12, h14⟩ := rn_bind h10
      clear h10
      have jq13 : Rn Z M_Gr_findReached 89 [some (.ref 44), some (.int l1), some (.int l2), some (.int l3), none] [] (emb g1 g2 x d c u t a b11 m o E) 0 0 K := by
        refine rn_iinc (ls' := [some (.ref 44), some (.int l1), some (.int l2), some (.int (l3 + 1)), none]) (by exact dc_Gr_findReached 54 rfl) (by decide) (by exact rfl) (by exact rn_inc_1 _) (by exact rfl) ?_
        refine rn_goto 35 (by exact dc_Gr_findReached 55 rfl) (by exact rfl) ?_
        exact rn_weak _ (by repeat (first | exact rn_le_0 | apply rn_le_s | apply rn_le_x)) (ih _ _ h14)
      by_cases c15 : x9 = 0
      · replace e12 := rn_ifp c15 e12
        refine rn_if_eq_t 89 (by exact dc_Gr_findReached 34 rfl) (by exact rfl) c15 ?_
        cases e12
        exact rn_weak _ (by repeat (first | exact rn_le_0 | apply rn_le_s | apply rn_le_x)) jq13
      · replace e12 := rn_ifn c15 e12
        refine rn_if_eq_f 89 (by exact dc_Gr_findReached 34 rfl) (by exact rfl) c15 ?_
        refine rn_aload_n (by exact dc_Gr_findReached 35 rfl) (by exact rfl) ?_
        refine rn_iload_n (by exact dc_Gr_findReached 36 rfl) (by exact rfl) ?_
        refine rn_iload_n (by exact dc_Gr_findReached 37 rfl) (by exact rfl) ?_
        refine rn_iload_n (by exact dc_Gr_findReached 38 rfl) (by exact rfl) ?_
        obtain ⟨x17, e16, h18⟩ := rn_bind e12
        clear e12
        refine rn_invV0 (by exact c_Gr_vanishes_b e16) iv_Gr_62 (by exact ⟨Nat.le_of_ble_eq_true rfl, Nat.le_of_ble_eq_true rfl⟩) (by exact dc_Gr_findReached 39 rfl) (by exact rfl) (by exact rfl) (by exact rfl) (by exact Nat.le_of_ble_eq_true rfl) ?_
        show Rn _ _ 68 [some (.ref 44), some (.int l1), some (.int l2), some (.int l3), some (.int x6)] [.int x17] (emb g1 g2 x d c u t a b m o E) _ _ _
        by_cases c19 : x17 = 0
        · replace h18 := rn_ifp c19 h18
          refine rn_if_eq_t 89 (by exact dc_Gr_findReached 40 rfl) (by exact rfl) c19 ?_
          cases h18
          exact rn_weak _ (by repeat (first | exact rn_le_0 | apply rn_le_s | apply rn_le_x)) jq13
        · replace h18 := rn_ifn c19 h18
          refine rn_if_eq_f 89 (by exact dc_Gr_findReached 40 rfl) (by exact rfl) c19 ?_
          refine rn_aload_n (by exact dc_Gr_findReached 41 rfl) (by exact rfl) ?_
          refine rn_getf (v := .ref 52) fd_Gr_41 (by exact dc_Gr_findReached 42 rfl) (by exact rfl) (by exact rfl) ?_
          refine rn_aload_n (by exact dc_Gr_findReached 43 rfl) (by exact rfl) ?_
          refine rn_getf (v := .ref 45) fd_Gr_9 (by exact dc_Gr_findReached 44 rfl) (by exact rfl) (by exact rfl) ?_
          refine rn_iload_n (by exact dc_Gr_findReached 45 rfl) (by exact rfl) ?_
          obtain ⟨x20, e21, h22⟩ := rn_bind h18
          clear h18
          refine rn_iaload (by exact dc_Gr_findReached 46 rfl) (by exact rfl) e21 ?_
          refine rn_dup2 (by exact dc_Gr_findReached 47 rfl) (by exact rfl) (by exact rfl) ?_
          obtain ⟨x23, e24, h25⟩ := rn_bind h22
          clear h22
          refine rn_iaload (by exact dc_Gr_findReached 48 rfl) (by exact rfl) e24 ?_
          refine rn_iconst (v := (1 : Int32)) (by exact dc_Gr_findReached 49 rfl) (by decide) ?_
          refine rn_iload (by exact dc_Gr_findReached 50 rfl) (by exact rfl) ?_
          refine rn_ishl (by exact dc_Gr_findReached 51 rfl) ?_
          refine rn_ior (by exact dc_Gr_findReached 52 rfl) ?_
          obtain ⟨f26, e27, h28⟩ := rn_bind h25
          clear h25
          refine rn_iastore (w2 := (emb g1 g2 x d c u t a (G_heads b, G_bodies b, G_bodyLengths b, G_weights b, G_costs b, G_capitals b, G_order b, G_ruleCount b, G_nonterminalCount b, f26) m o E)) (by exact dc_Gr_findReached 53 rfl) (by exact rfl) e27 (by exact rfl) ?_
          cases h28
          exact rn_weak _ (by repeat (first | exact rn_le_0 | apply rn_le_s | apply rn_le_x)) jq13
def F_Gr_findReached_L25 (l1 : Int32) : Nat → tG → Int32 → Option tG
  | 0, _, _ => none
  | n + 1, b, l2 =>
    if (G_ruleCount b) ≤ l2 then (
      some b
    ) else (
      Option.bind (F_Gr_findReached_L35 l1 l2 rn_fu b (0 : Int32)) fun b5 =>
      F_Gr_findReached_L25 l1 n b5 (l2 + 1)
    )
set_option maxHeartbeats 4000000 in
set_option maxRecDepth 100000 in
theorem p_Gr_findReached_L25_b {Z : rn_Z} {g1 g2 : Nat} {x : tX} {d : tD} {c : tC} {u : tU} {t : tT} {a : tG}  {m : tM} {o : tO} {E : List rn_C}  {l1 : Int32} {K : rn_K} {bz : tG} (hx : Rn Z M_Gr_findReached 101 [some (.ref 44), none, none, none, none] [] (emb g1 g2 x d c u t a bz m o E) 0 0 K) (n : Nat) : ∀ (b : tG) (l2 : Int32), F_Gr_findReached_L25 l1 n b l2 = some bz → Rn Z M_Gr_findReached 25 [some (.ref 44), some (.int l1), some (.int l2), none, none] [] (emb g1 g2 x d c u t a b m o E) 0 0 K := by
  induction n with
  | zero =>
    intro b l2 h
    rw [F_Gr_findReached_L25] at h
    cases h
  | succ n ih =>
    intro b l2 h
    rw [F_Gr_findReached_L25] at h
    refine rn_iload_n (by exact dc_Gr_findReached 15 rfl) (by exact rfl) ?_
    refine rn_aload_n (by exact dc_Gr_findReached 16 rfl) (by exact rfl) ?_
    refine rn_getf (v := .int (G_ruleCount b)) fd_Gr_34 (by exact dc_Gr_findReached 17 rfl) (by exact rfl) (by exact rfl) ?_
    by_cases c1 : (G_ruleCount b) ≤ l2
    · replace h := rn_ifp c1 h
      refine rn_icmp_ge_t 101 (by exact dc_Gr_findReached 18 rfl) (by exact rfl) c1 ?_
      cases h
      exact rn_weak _ (by repeat (first | exact rn_le_0 | apply rn_le_s | apply rn_le_x)) hx
    · replace h := rn_ifn c1 h
      refine rn_icmp_ge_f 101 (by exact dc_Gr_findReached 18 rfl) (by exact rfl) c1 ?_
      refine rn_iconst (v := (0 : Int32)) (by exact dc_Gr_findReached 19 rfl) (by decide) ?_
      refine rn_istore_n (ls' := [some (.ref 44), some (.int l1), some (.int l2), some (.int (0 : Int32)), none]) (by exact dc_Gr_findReached 20 rfl) (by decide) (by exact rfl) ?_
      obtain ⟨b5, e2, h4⟩ := rn_bind h
      clear h
      have jx3 : Rn Z M_Gr_findReached 95 [some (.ref 44), some (.int l1), some (.int l2), none, none] [] (emb g1 g2 x d c u t a b5 m o E) 0 0 K := by
        refine rn_iinc (ls' := [some (.ref 44), some (.int l1), some (.int (l2 + 1)), none, none]) (by exact dc_Gr_findReached 56 rfl) (by decide) (by exact rfl) (by exact rn_inc_1 _) (by exact rfl) ?_
        refine rn_goto 25 (by exact dc_Gr_findReached 57 rfl) (by exact rfl) ?_
        exact rn_weak _ (by repeat (first | exact rn_le_0 | apply rn_le_s | apply rn_le_x)) (ih _ _ h4)
      exact rn_weak _ (by repeat (first | exact rn_le_0 | apply rn_le_s | apply rn_le_x)) (p_Gr_findReached_L35_b jx3 _ _ _ e2)
def F_Gr_findReached (b : tG) (v0 : Int32) : Option tG :=
  Option.bind (F_Gr_findReached_L2 v0 rn_fu b (0 : Int32)) fun b4 =>
  Option.bind (F_Gr_findReached_L25 v0 rn_fu b4 (0 : Int32)) fun b8 =>
  Option.bind (F_Gr_closeReached b8 ) fun b10 =>
  some b10
set_option maxHeartbeats 4000000 in
set_option maxRecDepth 100000 in
theorem c_Gr_findReached_b {Z : rn_Z} {g1 g2 : Nat} {x : tX} {d : tD} {c : tC} {u : tU} {t : tT} {a : tG} {b : tG} {m : tM} {o : tO} {E : List rn_C} {v0 : Int32} {bR : tG} (h : F_Gr_findReached b v0 = some bR) : Call Z M_Gr_findReached [.ref 44, .int v0] (emb g1 g2 x d c u t a b m o E) 0 0 none (emb g1 g2 x d c u t a bR m o E) := by
  unfold F_Gr_findReached at h
  refine rn_call (by decide) 3 (by exact Nat.le_of_ble_eq_true rfl) ?_
  show Rn Z M_Gr_findReached 0 [some (.ref 44), some (.int v0), none, none, none] [] (emb g1 g2 x d c u t a b m o E) 0 0 _
  refine rn_iconst (v := (0 : Int32)) (by exact dc_Gr_findReached 0 rfl) (by decide) ?_
  refine rn_istore_n (ls' := [some (.ref 44), some (.int v0), some (.int (0 : Int32)), none, none]) (by exact dc_Gr_findReached 1 rfl) (by decide) (by exact rfl) ?_
  obtain ⟨b4, e1, h3⟩ := rn_bind h
  clear h
  have jx2 : Rn Z M_Gr_findReached 23 [some (.ref 44), some (.int v0), none, none, none] [] (emb g1 g2 x d c u t a b4 m o E) 0 0 (rn_Ret Z none (emb g1 g2 x d c u t a bR m o E)) := by
    refine rn_iconst (v := (0 : Int32)) (by exact dc_Gr_findReached 13 rfl) (by decide) ?_
    refine rn_istore_n (ls' := [some (.ref 44), some (.int v0), some (.int (0 : Int32)), none, none]) (by exact dc_Gr_findReached 14 rfl) (by decide) (by exact rfl) ?_
    obtain ⟨b8, e5, h7⟩ := rn_bind h3
    clear h3
    have jx6 : Rn Z M_Gr_findReached 101 [some (.ref 44), none, none, none, none] [] (emb g1 g2 x d c u t a b8 m o E) 0 0 (rn_Ret Z none (emb g1 g2 x d c u t a bR m o E)) := by
      refine rn_aload_n (by exact dc_Gr_findReached 58 rfl) (by exact rfl) ?_
      obtain ⟨b10, e9, h11⟩ := rn_bind h7
      clear h7
      refine rn_invV0 (by exact c_Gr_closeReached_b e9) iv_Gr_74 (by exact ⟨Nat.le_of_ble_eq_true rfl, Nat.le_of_ble_eq_true rfl⟩) (by exact dc_Gr_findReached 59 rfl) (by exact rfl) (by exact rfl) (by exact rfl) (by exact Nat.le_of_ble_eq_true rfl) ?_
      show Rn _ _ 105 [some (.ref 44), none, none, none, none] [] (emb g1 g2 x d c u t a b10 m o E) _ _ _
      cases h11
      exact rn_return (by exact dc_Gr_findReached 60 rfl) (by exact rfl)
    exact rn_weak _ (by repeat (first | exact rn_le_0 | apply rn_le_s | apply rn_le_x)) (p_Gr_findReached_L25_b jx6 _ _ _ e5)
  exact rn_weak _ (by repeat (first | exact rn_le_0 | apply rn_le_s | apply rn_le_x)) (p_Gr_findReached_L2_b jx2 _ _ _ e1)
end
section
def F_Ji_bitCount (v0 : Int32) : Option Int32 :=
  some ((((((((v0 - (((v0.toUInt32 >>> ((1 : Int32).toUInt32 &&& Int32.toUInt32 31)).toInt32) &&& (1431655765 : Int32))) &&& (858993459 : Int32)) + ((((v0 - (((v0.toUInt32 >>> ((1 : Int32).toUInt32 &&& Int32.toUInt32 31)).toInt32) &&& (1431655765 : Int32))).toUInt32 >>> ((2 : Int32).toUInt32 &&& Int32.toUInt32 31)).toInt32) &&& (858993459 : Int32))) + (((((v0 - (((v0.toUInt32 >>> ((1 : Int32).toUInt32 &&& Int32.toUInt32 31)).toInt32) &&& (1431655765 : Int32))) &&& (858993459 : Int32)) + ((((v0 - (((v0.toUInt32 >>> ((1 : Int32).toUInt32 &&& Int32.toUInt32 31)).toInt32) &&& (1431655765 : Int32))).toUInt32 >>> ((2 : Int32).toUInt32 &&& Int32.toUInt32 31)).toInt32) &&& (858993459 : Int32))).toUInt32 >>> ((4 : Int32).toUInt32 &&& Int32.toUInt32 31)).toInt32)) &&& (252645135 : Int32)) + (((((((v0 - (((v0.toUInt32 >>> ((1 : Int32).toUInt32 &&& Int32.toUInt32 31)).toInt32) &&& (1431655765 : Int32))) &&& (858993459 : Int32)) + ((((v0 - (((v0.toUInt32 >>> ((1 : Int32).toUInt32 &&& Int32.toUInt32 31)).toInt32) &&& (1431655765 : Int32))).toUInt32 >>> ((2 : Int32).toUInt32 &&& Int32.toUInt32 31)).toInt32) &&& (858993459 : Int32))) + (((((v0 - (((v0.toUInt32 >>> ((1 : Int32).toUInt32 &&& Int32.toUInt32 31)).toInt32) &&& (1431655765 : Int32))) &&& (858993459 : Int32)) + ((((v0 - (((v0.toUInt32 >>> ((1 : Int32).toUInt32 &&& Int32.toUInt32 31)).toInt32) &&& (1431655765 : Int32))).toUInt32 >>> ((2 : Int32).toUInt32 &&& Int32.toUInt32 31)).toInt32) &&& (858993459 : Int32))).toUInt32 >>> ((4 : Int32).toUInt32 &&& Int32.toUInt32 31)).toInt32)) &&& (252645135 : Int32)).toUInt32 >>> ((8 : Int32).toUInt32 &&& Int32.toUInt32 31)).toInt32)) + ((((((((v0 - (((v0.toUInt32 >>> ((1 : Int32).toUInt32 &&& Int32.toUInt32 31)).toInt32) &&& (1431655765 : Int32))) &&& (858993459 : Int32)) + ((((v0 - (((v0.toUInt32 >>> ((1 : Int32).toUInt32 &&& Int32.toUInt32 31)).toInt32) &&& (1431655765 : Int32))).toUInt32 >>> ((2 : Int32).toUInt32 &&& Int32.toUInt32 31)).toInt32) &&& (858993459 : Int32))) + (((((v0 - (((v0.toUInt32 >>> ((1 : Int32).toUInt32 &&& Int32.toUInt32 31)).toInt32) &&& (1431655765 : Int32))) &&& (858993459 : Int32)) + ((((v0 - (((v0.toUInt32 >>> ((1 : Int32).toUInt32 &&& Int32.toUInt32 31)).toInt32) &&& (1431655765 : Int32))).toUInt32 >>> ((2 : Int32).toUInt32 &&& Int32.toUInt32 31)).toInt32) &&& (858993459 : Int32))).toUInt32 >>> ((4 : Int32).toUInt32 &&& Int32.toUInt32 31)).toInt32)) &&& (252645135 : Int32)) + (((((((v0 - (((v0.toUInt32 >>> ((1 : Int32).toUInt32 &&& Int32.toUInt32 31)).toInt32) &&& (1431655765 : Int32))) &&& (858993459 : Int32)) + ((((v0 - (((v0.toUInt32 >>> ((1 : Int32).toUInt32 &&& Int32.toUInt32 31)).toInt32) &&& (1431655765 : Int32))).toUInt32 >>> ((2 : Int32).toUInt32 &&& Int32.toUInt32 31)).toInt32) &&& (858993459 : Int32))) + (((((v0 - (((v0.toUInt32 >>> ((1 : Int32).toUInt32 &&& Int32.toUInt32 31)).toInt32) &&& (1431655765 : Int32))) &&& (858993459 : Int32)) + ((((v0 - (((v0.toUInt32 >>> ((1 : Int32).toUInt32 &&& Int32.toUInt32 31)).toInt32) &&& (1431655765 : Int32))).toUInt32 >>> ((2 : Int32).toUInt32 &&& Int32.toUInt32 31)).toInt32) &&& (858993459 : Int32))).toUInt32 >>> ((4 : Int32).toUInt32 &&& Int32.toUInt32 31)).toInt32)) &&& (252645135 : Int32)).toUInt32 >>> ((8 : Int32).toUInt32 &&& Int32.toUInt32 31)).toInt32)).toUInt32 >>> ((16 : Int32).toUInt32 &&& Int32.toUInt32 31)).toInt32)) &&& (63 : Int32))
set_option maxHeartbeats 4000000 in
set_option maxRecDepth 100000 in
theorem c_Ji_bitCount {Z : rn_Z} {g1 g2 : Nat} {x : tX} {d : tD} {c : tC} {u : tU} {t : tT} {a : tG} {b : tG} {m : tM} {o : tO} {E : List rn_C} {v0 : Int32} {res : Int32} (h : F_Ji_bitCount  v0 = some res) : Call Z M_Ji_bitCount [.int v0] (emb g1 g2 x d c u t a b m o E) 0 0 (some (.int res)) (emb g1 g2 x d c u t a b m o E) := by
  unfold F_Ji_bitCount at h
  refine rn_call (by decide) 0 (by exact Nat.le_of_ble_eq_true rfl) ?_
  show Rn Z M_Ji_bitCount 0 [some (.int v0)] [] (emb g1 g2 x d c u t a b m o E) 0 0 _
  refine rn_iload_n (by exact dc_Ji_bitCount 0 rfl) (by exact rfl) ?_
  refine rn_iload_n (by exact dc_Ji_bitCount 1 rfl) (by exact rfl) ?_
  refine rn_iconst (v := (1 : Int32)) (by exact dc_Ji_bitCount 2 rfl) (by decide) ?_
  refine rn_iushr (by exact dc_Ji_bitCount 3 rfl) ?_
  refine rn_ldcw (v := (1431655765 : Int32)) (by exact dc_Ji_bitCount 4 rfl) kc_Ji_265 ?_
  refine rn_iand (by exact dc_Ji_bitCount 5 rfl) ?_
  refine rn_isub (by exact dc_Ji_bitCount 6 rfl) ?_
  refine rn_istore_n (ls' := [some (.int (v0 - (((v0.toUInt32 >>> ((1 : Int32).toUInt32 &&& Int32.toUInt32 31)).toInt32) &&& (1431655765 : Int32))))]) (by exact dc_Ji_bitCount 7 rfl) (by decide) (by exact rfl) ?_
  refine rn_iload_n (by exact dc_Ji_bitCount 8 rfl) (by exact rfl) ?_
  refine rn_ldcw (v := (858993459 : Int32)) (by exact dc_Ji_bitCount 9 rfl) kc_Ji_266 ?_
  refine rn_iand (by exact dc_Ji_bitCount 10 rfl) ?_
  refine rn_iload_n (by exact dc_Ji_bitCount 11 rfl) (by exact rfl) ?_
  refine rn_iconst (v := (2 : Int32)) (by exact dc_Ji_bitCount 12 rfl) (by decide) ?_
  refine rn_iushr (by exact dc_Ji_bitCount 13 rfl) ?_
  refine rn_ldcw (v := (858993459 : Int32)) (by exact dc_Ji_bitCount 14 rfl) kc_Ji_266 ?_
  refine rn_iand (by exact dc_Ji_bitCount 15 rfl) ?_
  refine rn_iadd (by exact dc_Ji_bitCount 16 rfl) ?_
  refine rn_istore_n (ls' := [some (.int (((v0 - (((v0.toUInt32 >>> ((1 : Int32).toUInt32 &&& Int32.toUInt32 31)).toInt32) &&& (1431655765 : Int32))) &&& (858993459 : Int32)) + ((((v0 - (((v0.toUInt32 >>> ((1 : Int32).toUInt32 &&& Int32.toUInt32 31)).toInt32) &&& (1431655765 : Int32))).toUInt32 >>> ((2 : Int32).toUInt32 &&& Int32.toUInt32 31)).toInt32) &&& (858993459 : Int32))))]) (by exact dc_Ji_bitCount 17 rfl) (by decide) (by exact rfl) ?_
  refine rn_iload_n (by exact dc_Ji_bitCount 18 rfl) (by exact rfl) ?_
  refine rn_iload_n (by exact dc_Ji_bitCount 19 rfl) (by exact rfl) ?_
  refine rn_iconst (v := (4 : Int32)) (by exact dc_Ji_bitCount 20 rfl) (by decide) ?_
  refine rn_iushr (by exact dc_Ji_bitCount 21 rfl) ?_
  refine rn_iadd (by exact dc_Ji_bitCount 22 rfl) ?_
  refine rn_ldcw (v := (252645135 : Int32)) (by exact dc_Ji_bitCount 23 rfl) kc_Ji_267 ?_
  refine rn_iand (by exact dc_Ji_bitCount 24 rfl) ?_
  refine rn_istore_n (ls' := [some (.int (((((v0 - (((v0.toUInt32 >>> ((1 : Int32).toUInt32 &&& Int32.toUInt32 31)).toInt32) &&& (1431655765 : Int32))) &&& (858993459 : Int32)) + ((((v0 - (((v0.toUInt32 >>> ((1 : Int32).toUInt32 &&& Int32.toUInt32 31)).toInt32) &&& (1431655765 : Int32))).toUInt32 >>> ((2 : Int32).toUInt32 &&& Int32.toUInt32 31)).toInt32) &&& (858993459 : Int32))) + (((((v0 - (((v0.toUInt32 >>> ((1 : Int32).toUInt32 &&& Int32.toUInt32 31)).toInt32) &&& (1431655765 : Int32))) &&& (858993459 : Int32)) + ((((v0 - (((v0.toUInt32 >>> ((1 : Int32).toUInt32 &&& Int32.toUInt32 31)).toInt32) &&& (1431655765 : Int32))).toUInt32 >>> ((2 : Int32).toUInt32 &&& Int32.toUInt32 31)).toInt32) &&& (858993459 : Int32))).toUInt32 >>> ((4 : Int32).toUInt32 &&& Int32.toUInt32 31)).toInt32)) &&& (252645135 : Int32)))]) (by exact dc_Ji_bitCount 25 rfl) (by decide) (by exact rfl) ?_
  refine rn_iload_n (by exact dc_Ji_bitCount 26 rfl) (by exact rfl) ?_
  refine rn_iload_n (by exact dc_Ji_bitCount 27 rfl) (by exact rfl) ?_
  refine rn_bipush (v := (8 : Int32)) (by exact dc_Ji_bitCount 28 rfl) (by decide) ?_
  refine rn_iushr (by exact dc_Ji_bitCount 29 rfl) ?_
  refine rn_iadd (by exact dc_Ji_bitCount 30 rfl) ?_
  refine rn_istore_n (ls' := [some (.int ((((((v0 - (((v0.toUInt32 >>> ((1 : Int32).toUInt32 &&& Int32.toUInt32 31)).toInt32) &&& (1431655765 : Int32))) &&& (858993459 : Int32)) + ((((v0 - (((v0.toUInt32 >>> ((1 : Int32).toUInt32 &&& Int32.toUInt32 31)).toInt32) &&& (1431655765 : Int32))).toUInt32 >>> ((2 : Int32).toUInt32 &&& Int32.toUInt32 31)).toInt32) &&& (858993459 : Int32))) + (((((v0 - (((v0.toUInt32 >>> ((1 : Int32).toUInt32 &&& Int32.toUInt32 31)).toInt32) &&& (1431655765 : Int32))) &&& (858993459 : Int32)) + ((((v0 - (((v0.toUInt32 >>> ((1 : Int32).toUInt32 &&& Int32.toUInt32 31)).toInt32) &&& (1431655765 : Int32))).toUInt32 >>> ((2 : Int32).toUInt32 &&& Int32.toUInt32 31)).toInt32) &&& (858993459 : Int32))).toUInt32 >>> ((4 : Int32).toUInt32 &&& Int32.toUInt32 31)).toInt32)) &&& (252645135 : Int32)) + (((((((v0 - (((v0.toUInt32 >>> ((1 : Int32).toUInt32 &&& Int32.toUInt32 31)).toInt32) &&& (1431655765 : Int32))) &&& (858993459 : Int32)) + ((((v0 - (((v0.toUInt32 >>> ((1 : Int32).toUInt32 &&& Int32.toUInt32 31)).toInt32) &&& (1431655765 : Int32))).toUInt32 >>> ((2 : Int32).toUInt32 &&& Int32.toUInt32 31)).toInt32) &&& (858993459 : Int32))) + (((((v0 - (((v0.toUInt32 >>> ((1 : Int32).toUInt32 &&& Int32.toUInt32 31)).toInt32) &&& (1431655765 : Int32))) &&& (858993459 : Int32)) + ((((v0 - (((v0.toUInt32 >>> ((1 : Int32).toUInt32 &&& Int32.toUInt32 31)).toInt32) &&& (1431655765 : Int32))).toUInt32 >>> ((2 : Int32).toUInt32 &&& Int32.toUInt32 31)).toInt32) &&& (858993459 : Int32))).toUInt32 >>> ((4 : Int32).toUInt32 &&& Int32.toUInt32 31)).toInt32)) &&& (252645135 : Int32)).toUInt32 >>> ((8 : Int32).toUInt32 &&& Int32.toUInt32 31)).toInt32)))]) (by exact dc_Ji_bitCount 31 rfl) (by decide) (by exact rfl) ?_
  refine rn_iload_n (by exact dc_Ji_bitCount 32 rfl) (by exact rfl) ?_
  refine rn_iload_n (by exact dc_Ji_bitCount 33 rfl) (by exact rfl) ?_
  refine rn_bipush (v := (16 : Int32)) (by exact dc_Ji_bitCount 34 rfl) (by decide) ?_
  refine rn_iushr (by exact dc_Ji_bitCount 35 rfl) ?_
  refine rn_iadd (by exact dc_Ji_bitCount 36 rfl) ?_
  refine rn_istore_n (ls' := [some (.int (((((((v0 - (((v0.toUInt32 >>> ((1 : Int32).toUInt32 &&& Int32.toUInt32 31)).toInt32) &&& (1431655765 : Int32))) &&& (858993459 : Int32)) + ((((v0 - (((v0.toUInt32 >>> ((1 : Int32).toUInt32 &&& Int32.toUInt32 31)).toInt32) &&& (1431655765 : Int32))).toUInt32 >>> ((2 : Int32).toUInt32 &&& Int32.toUInt32 31)).toInt32) &&& (858993459 : Int32))) + (((((v0 - (((v0.toUInt32 >>> ((1 : Int32).toUInt32 &&& Int32.toUInt32 31)).toInt32) &&& (1431655765 : Int32))) &&& (858993459 : Int32)) + ((((v0 - (((v0.toUInt32 >>> ((1 : Int32).toUInt32 &&& Int32.toUInt32 31)).toInt32) &&& (1431655765 : Int32))).toUInt32 >>> ((2 : Int32).toUInt32 &&& Int32.toUInt32 31)).toInt32) &&& (858993459 : Int32))).toUInt32 >>> ((4 : Int32).toUInt32 &&& Int32.toUInt32 31)).toInt32)) &&& (252645135 : Int32)) + (((((((v0 - (((v0.toUInt32 >>> ((1 : Int32).toUInt32 &&& Int32.toUInt32 31)).toInt32) &&& (1431655765 : Int32))) &&& (858993459 : Int32)) + ((((v0 - (((v0.toUInt32 >>> ((1 : Int32).toUInt32 &&& Int32.toUInt32 31)).toInt32) &&& (1431655765 : Int32))).toUInt32 >>> ((2 : Int32).toUInt32 &&& Int32.toUInt32 31)).toInt32) &&& (858993459 : Int32))) + (((((v0 - (((v0.toUInt32 >>> ((1 : Int32).toUInt32 &&& Int32.toUInt32 31)).toInt32) &&& (1431655765 : Int32))) &&& (858993459 : Int32)) + ((((v0 - (((v0.toUInt32 >>> ((1 : Int32).toUInt32 &&& Int32.toUInt32 31)).toInt32) &&& (1431655765 : Int32))).toUInt32 >>> ((2 : Int32).toUInt32 &&& Int32.toUInt32 31)).toInt32) &&& (858993459 : Int32))).toUInt32 >>> ((4 : Int32).toUInt32 &&& Int32.toUInt32 31)).toInt32)) &&& (252645135 : Int32)).toUInt32 >>> ((8 : Int32).toUInt32 &&& Int32.toUInt32 31)).toInt32)) + ((((((((v0 - (((v0.toUInt32 >>> ((1 : Int32).toUInt32 &&& Int32.toUInt32 31)).toInt32) &&& (1431655765 : Int32))) &&& (858993459 : Int32)) + ((((v0 - (((v0.toUInt32 >>> ((1 : Int32).toUInt32 &&& Int32.toUInt32 31)).toInt32) &&& (1431655765 : Int32))).toUInt32 >>> ((2 : Int32).toUInt32 &&& Int32.toUInt32 31)).toInt32) &&& (858993459 : Int32))) + (((((v0 - (((v0.toUInt32 >>> ((1 : Int32).toUInt32 &&& Int32.toUInt32 31)).toInt32) &&& (1431655765 : Int32))) &&& (858993459 : Int32)) + ((((v0 - (((v0.toUInt32 >>> ((1 : Int32).toUInt32 &&& Int32.toUInt32 31)).toInt32) &&& (1431655765 : Int32))).toUInt32 >>> ((2 : Int32).toUInt32 &&& Int32.toUInt32 31)).toInt32) &&& (858993459 : Int32))).toUInt32 >>> ((4 : Int32).toUInt32 &&& Int32.toUInt32 31)).toInt32)) &&& (252645135 : Int32)) + (((((((v0 - (((v0.toUInt32 >>> ((1 : Int32).toUInt32 &&& Int32.toUInt32 31)).toInt32) &&& (1431655765 : Int32))) &&& (858993459 : Int32)) + ((((v0 - (((v0.toUInt32 >>> ((1 : Int32).toUInt32 &&& Int32.toUInt32 31)).toInt32) &&& (1431655765 : Int32))).toUInt32 >>> ((2 : Int32).toUInt32 &&& Int32.toUInt32 31)).toInt32) &&& (858993459 : Int32))) + (((((v0 - (((v0.toUInt32 >>> ((1 : Int32).toUInt32 &&& Int32.toUInt32 31)).toInt32) &&& (1431655765 : Int32))) &&& (858993459 : Int32)) + ((((v0 - (((v0.toUInt32 >>> ((1 : Int32).toUInt32 &&& Int32.toUInt32 31)).toInt32) &&& (1431655765 : Int32))).toUInt32 >>> ((2 : Int32).toUInt32 &&& Int32.toUInt32 31)).toInt32) &&& (858993459 : Int32))).toUInt32 >>> ((4 : Int32).toUInt32 &&& Int32.toUInt32 31)).toInt32)) &&& (252645135 : Int32)).toUInt32 >>> ((8 : Int32).toUInt32 &&& Int32.toUInt32 31)).toInt32)).toUInt32 >>> ((16 : Int32).toUInt32 &&& Int32.toUInt32 31)).toInt32)))]) (by exact dc_Ji_bitCount 37 rfl) (by decide) (by exact rfl) ?_
  refine rn_iload_n (by exact dc_Ji_bitCount 38 rfl) (by exact rfl) ?_
  refine rn_bipush (v := (63 : Int32)) (by exact dc_Ji_bitCount 39 rfl) (by decide) ?_
  refine rn_iand (by exact dc_Ji_bitCount 40 rfl) ?_
  cases h
  exact rn_ireturn (by exact dc_Ji_bitCount 41 rfl) (by exact rfl)
def F_Gr_findOrder_L10 (b : tG) : Nat → Int32 → Option ((Int32 × tG) ⊕ Unit)
  | 0, _ => none
  | n + 1, l1 =>
    if (G_nonterminalCount b) ≤ l1 then (
      some (.inr ())
    ) else (
      Option.bind (aG (G_reached b) 6 l1) fun x2 =>
      Option.bind (F_Gr_hasBit  x2 l1) fun x6 =>
      if x6 = 0 then (
        F_Gr_findOrder_L10 b n (l1 + 1)
      ) else (
        some (.inl ((0 : Int32), b))
      )
    )
set_option maxHeartbeats 4000000 in
set_option maxRecDepth 100000 in
theorem p_Gr_findOrder_L10_b {Z : rn_Z} {g1 g2 : Nat} {x : tX} {d : tD} {c : tC} {u : tU} {t : tT} {a : tG} {b : tG} {m : tM} {o : tO} {E : List rn_C}   {K : rn_K} {out : ((Int32 × tG) ⊕ Unit)} (hx : out = .inr () → Rn Z M_Gr_findOrder 39 [some (.ref 44), none, none, none] [] (emb g1 g2 x d c u t a b m o E) 0 0 K) (hr : ∀ (rv : Int32) (bw : tG), out = .inl (rv, bw) → K = rn_Ret Z (some (.int rv)) (emb g1 g2 x d c u t a bw m o E)) (n : Nat) : ∀ (l1 : Int32), F_Gr_findOrder_L10 b n l1 = some out → Rn Z M_Gr_findOrder 10 [some (.ref 44), some (.int l1), none, none] [] (emb g1 g2 x d c u t a b m o E) 0 0 K := by
  induction n with
  | zero =>
    intro l1 h
    rw [F_Gr_findOrder_L10] at h
    cases h
  | succ n ih =>
    intro l1 h
    rw [F_Gr_findOrder_L10] at h
    refine rn_iload_n (by exact dc_Gr_findOrder 6 rfl) (by exact rfl) ?_
    refine rn_aload_n (by exact dc_Gr_findOrder 7 rfl) (by exact rfl) ?_
    refine rn_getf (v := .int (G_nonterminalCount b)) fd_Gr_38 (by exact dc_Gr_findOrder 8 rfl) (by exact rfl) (by exact rfl) ?_
    by_cases c1 : (G_nonterminalCount b) ≤ l1
    · replace h := rn_ifp c1 h
      refine rn_icmp_ge_t 39 (by exact dc_Gr_findOrder 9 rfl) (by exact rfl) c1 ?_
      cases h
      exact rn_weak _ (by repeat (first | exact rn_le_0 | apply rn_le_s | apply rn_le_x)) (hx rfl)
    · replace h := rn_ifn c1 h
      refine rn_icmp_ge_f 39 (by exact dc_Gr_findOrder 9 rfl) (by exact rfl) c1 ?_
      refine rn_aload_n (by exact dc_Gr_findOrder 10 rfl) (by exact rfl) ?_
      refine rn_getf (v := .ref 52) fd_Gr_41 (by exact dc_Gr_findOrder 11 rfl) (by exact rfl) (by exact rfl) ?_
      refine rn_iload_n (by exact dc_Gr_findOrder 12 rfl) (by exact rfl) ?_
      obtain ⟨x2, e3, h4⟩ := rn_bind h
      clear h
      refine rn_iaload (by exact dc_Gr_findOrder 13 rfl) (by exact rfl) e3 ?_
      refine rn_iload_n (by exact dc_Gr_findOrder 14 rfl) (by exact rfl) ?_
      obtain ⟨x6, e5, h7⟩ := rn_bind h4
      clear h4
      refine rn_invS0 (by exact c_Gr_hasBit e5) is_Gr_52 (by exact ⟨Nat.le_of_ble_eq_true rfl, Nat.le_of_ble_eq_true rfl⟩) (by exact dc_Gr_findOrder 15 rfl) (by exact rfl) (by exact rfl) (by exact Nat.le_of_ble_eq_true rfl) ?_
      show Rn _ _ 28 [some (.ref 44), some (.int l1), none, none] [.int x6] (emb g1 g2 x d c u t a b m o E) _ _ _
      by_cases c8 : x6 = 0
      · replace h7 := rn_ifp c8 h7
        refine rn_if_eq_t 33 (by exact dc_Gr_findOrder 16 rfl) (by exact rfl) c8 ?_
        refine rn_iinc (ls' := [some (.ref 44), some (.int (l1 + 1)), none, none]) (by exact dc_Gr_findOrder 19 rfl) (by decide) (by exact rfl) (by exact rn_inc_1 _) (by exact rfl) ?_
        refine rn_goto 10 (by exact dc_Gr_findOrder 20 rfl) (by exact rfl) ?_
        exact rn_weak _ (by repeat (first | exact rn_le_0 | apply rn_le_s | apply rn_le_x)) (ih _ h7)
      · replace h7 := rn_ifn c8 h7
        refine rn_if_eq_f 33 (by exact dc_Gr_findOrder 16 rfl) (by exact rfl) c8 ?_
        refine rn_iconst (v := (0 : Int32)) (by exact dc_Gr_findOrder 17 rfl) (by decide) ?_
        cases h7
        have hK := hr _ _ rfl
        subst hK
        exact rn_zreturn (by exact dc_Gr_findOrder 18 rfl) (by exact rfl) (by first | exact Or.inl rfl | exact Or.inr rfl)
def F_Gr_findOrder_L53 (l2 : Int32) : Nat → tG → Int32 → Int32 → Option (Int32 × tG)
  | 0, _, _, _ => none
  | n + 1, b, l1, l3 =>
    if (G_nonterminalCount b) ≤ l3 then (
      some (l1, b)
    ) else (
      Option.bind (aG (G_reached b) 6 l3) fun x2 =>
      Option.bind (F_Ji_bitCount  x2) fun x6 =>
      Option.bind (
        if ¬ x6 = l2 then (
          some ((l1 : Int32), b)
        ) else (
          Option.bind (aS (G_order b) 6 l1 l3) fun f14 =>
          some ((l1 + 1 : Int32), (G_heads b, G_bodies b, G_bodyLengths b, G_weights b, G_costs b, G_capitals b, f14, G_ruleCount b, G_nonterminalCount b, G_reached b))
        )
       : Option (Int32 × tG)) fun (y8, b9) =>
      F_Gr_findOrder_L53 l2 n b9 y8 (l3 + 1)
    )
set_option maxHeartbeats 4000000 in
set_option maxRecDepth 100000 in
theorem p_Gr_findOrder_L53_b {Z : rn_Z} {g1 g2 : Nat} {x : tX} {d : tD} {c : tC} {u : tU} {t : tT} {a : tG}  {m : tM} {o : tO} {E : List rn_C}  {l2 : Int32} {K : rn_K} {z1 : Int32} {bz : tG} (hx : Rn Z M_Gr_findOrder 90 [some (.ref 44), some (.int z1), some (.int l2), none] [] (emb g1 g2 x d c u t a bz m o E) 0 0 K) (n : Nat) : ∀ (b : tG) (l1 : Int32) (l3 : Int32), F_Gr_findOrder_L53 l2 n b l1 l3 = some (z1, bz) → Rn Z M_Gr_findOrder 53 [some (.ref 44), some (.int l1), some (.int l2), some (.int l3)] [] (emb g1 g2 x d c u t a b m o E) 0 0 K := by
  induction n with
  | zero =>
    intro b l1 l3 h
    rw [F_Gr_findOrder_L53] at h
    cases h
  | succ n ih =>
    intro b l1 l3 h
    rw [F_Gr_findOrder_L53] at h
    refine rn_iload_n (by exact dc_Gr_findOrder 31 rfl) (by exact rfl) ?_
    refine rn_aload_n (by exact dc_Gr_findOrder 32 rfl) (by exact rfl) ?_
    refine rn_getf (v := .int (G_nonterminalCount b)) fd_Gr_38 (by exact dc_Gr_findOrder 33 rfl) (by exact rfl) (by exact rfl) ?_
    by_cases c1 : (G_nonterminalCount b) ≤ l3
    · replace h := rn_ifp c1 h
      refine rn_icmp_ge_t 90 (by exact dc_Gr_findOrder 34 rfl) (by exact rfl) c1 ?_
      cases h
      exact rn_weak _ (by repeat (first | exact rn_le_0 | apply rn_le_s | apply rn_le_x)) hx
    · replace h := rn_ifn c1 h
      refine rn_icmp_ge_f 90 (by exact dc_Gr_findOrder 34 rfl) (by exact rfl) c1 ?_
      refine rn_aload_n (by exact dc_Gr_findOrder 35 rfl) (by exact rfl) ?_
      refine rn_getf (v := .ref 52) fd_Gr_41 (by exact dc_Gr_findOrder 36 rfl) (by exact rfl) (by exact rfl) ?_
      refine rn_iload_n (by exact dc_Gr_findOrder 37 rfl) (by exact rfl) ?_
      obtain ⟨x2, e3, h4⟩ := rn_bind h
      clear h
      refine rn_iaload (by exact dc_Gr_findOrder 38 rfl) (by exact rfl) e3 ?_
      obtain ⟨x6, e5, h7⟩ := rn_bind h4
      clear h4
      refine rn_invS0 (by exact c_Ji_bitCount e5) is_Gr_56 (by exact ⟨Nat.le_of_ble_eq_true rfl, Nat.le_of_ble_eq_true rfl⟩) (by exact dc_Gr_findOrder 39 rfl) (by exact rfl) (by exact rfl) (by exact Nat.le_of_ble_eq_true rfl) ?_
      show Rn _ _ 70 [some (.ref 44), some (.int l1), some (.int l2), some (.int l3)] [.int x6] (emb g1 g2 x d c u t a b m o E) _ _ _
      refine rn_iload_n (by exact dc_Gr_findOrder 40 rfl) (by exact rfl) ?_
      obtain ⟨⟨y8, b9⟩, e10, h12⟩ := rn_bind h7
      clear h7
      dsimp only at h12
      have jq11 : Rn Z M_Gr_findOrder 84 [some (.ref 44), some (.int y8), some (.int l2), some (.int l3)] [] (emb g1 g2 x d c u t a b9 m o E) 0 0 K := by
        refine rn_iinc (ls' := [some (.ref 44), some (.int y8), some (.int l2), some (.int (l3 + 1))]) (by exact dc_Gr_findOrder 48 rfl) (by decide) (by exact rfl) (by exact rn_inc_1 _) (by exact rfl) ?_
        refine rn_goto 53 (by exact dc_Gr_findOrder 49 rfl) (by exact rfl) ?_
        exact rn_weak _ (by repeat (first | exact rn_le_0 | apply rn_le_s | apply rn_le_x)) (ih _ _ _ h12)
      by_cases c13 : ¬ x6 = l2
      · replace e10 := rn_ifp c13 e10
        refine rn_icmp_ne_t 84 (by exact dc_Gr_findOrder 41 rfl) (by exact rfl) c13 ?_
        cases e10
        exact rn_weak _ (by repeat (first | exact rn_le_0 | apply rn_le_s | apply rn_le_x)) jq11
      · replace e10 := rn_ifn c13 e10
        refine rn_icmp_ne_f 84 (by exact dc_Gr_findOrder 41 rfl) (by exact rfl) (Classical.not_not.mp c13) ?_
        refine rn_aload_n (by exact dc_Gr_findOrder 42 rfl) (by exact rfl) ?_
        refine rn_getf (v := .ref 51) fd_Gr_31 (by exact dc_Gr_findOrder 43 rfl) (by exact rfl) (by exact rfl) ?_
        refine rn_iload_n (by exact dc_Gr_findOrder 44 rfl) (by exact rfl) ?_
        refine rn_iload_n (by exact dc_Gr_findOrder 45 rfl) (by exact rfl) ?_
        obtain ⟨f14, e15, h16⟩ := rn_bind e10
        clear e10
        refine rn_iastore (w2 := (emb g1 g2 x d c u t a (G_heads b, G_bodies b, G_bodyLengths b, G_weights b, G_costs b, G_capitals b, f14, G_ruleCount b, G_nonterminalCount b, G_reached b) m o E)) (by exact dc_Gr_findOrder 46 rfl) (by exact rfl) e15 (by exact rfl) ?_
        refine rn_iinc (ls' := [some (.ref 44), some (.int (l1 + 1)), some (.int l2), some (.int l3)]) (by exact dc_Gr_findOrder 47 rfl) (by decide) (by exact rfl) (by exact rn_inc_1 _) (by exact rfl) ?_
        cases h16
        exact rn_weak _ (by repeat (first | exact rn_le_0 | apply rn_le_s | apply rn_le_x)) jq11
def F_Gr_findOrder_L43  : Nat → tG → Int32 → Int32 → Option tG
  | 0, _, _, _ => none
  | n + 1, b, l1, l2 =>
    if (G_nonterminalCount b) ≤ l2 then (
      some b
    ) else (
      Option.bind (F_Gr_findOrder_L53 l2 rn_fu b l1 (0 : Int32)) fun (y5, b6) =>
      F_Gr_findOrder_L43  n b6 y5 (l2 + 1)
    )
set_option maxHeartbeats 4000000 in
set_option maxRecDepth 100000 in
theorem p_Gr_findOrder_L43_b {Z : rn_Z} {g1 g2 : Nat} {x : tX} {d : tD} {c : tC} {u : tU} {t : tT} {a : tG}  {m : tM} {o : tO} {E : List rn_C}   {K : rn_K} {bz : tG} (hx : Rn Z M_Gr_findOrder 96 [none, none, none, none] [] (emb g1 g2 x d c u t a bz m o E) 0 0 K) (n : Nat) : ∀ (b : tG) (l1 : Int32) (l2 : Int32), F_Gr_findOrder_L43  n b l1 l2 = some bz → Rn Z M_Gr_findOrder 43 [some (.ref 44), some (.int l1), some (.int l2), none] [] (emb g1 g2 x d c u t a b m o E) 0 0 K := by
  induction n with
  | zero =>
    intro b l1 l2 h
    rw [F_Gr_findOrder_L43] at h
    cases h
  | succ n ih =>
    intro b l1 l2 h
    rw [F_Gr_findOrder_L43] at h
    refine rn_iload_n (by exact dc_Gr_findOrder 25 rfl) (by exact rfl) ?_
    refine rn_aload_n (by exact dc_Gr_findOrder 26 rfl) (by exact rfl) ?_
    refine rn_getf (v := .int (G_nonterminalCount b)) fd_Gr_38 (by exact dc_Gr_findOrder 27 rfl) (by exact rfl) (by exact rfl) ?_
    by_cases c1 : (G_nonterminalCount b) ≤ l2
    · replace h := rn_ifp c1 h
      refine rn_icmp_ge_t 96 (by exact dc_Gr_findOrder 28 rfl) (by exact rfl) c1 ?_
      cases h
      exact rn_weak _ (by repeat (first | exact rn_le_0 | apply rn_le_s | apply rn_le_x)) hx
    · replace h := rn_ifn c1 h
      refine rn_icmp_ge_f 96 (by exact dc_Gr_findOrder 28 rfl) (by exact rfl) c1 ?_
      refine rn_iconst (v := (0 : Int32)) (by exact dc_Gr_findOrder 29 rfl) (by decide) ?_
      refine rn_istore_n (ls' := [some (.ref 44), some (.int l1), some (.int l2), some (.int (0 : Int32))]) (by exact dc_Gr_findOrder 30 rfl) (by decide) (by exact rfl) ?_
      obtain ⟨⟨y5, b6⟩, e2, h4⟩ := rn_bind h
      clear h
      dsimp only at h4
      have jx3 : Rn Z M_Gr_findOrder 90 [some (.ref 44), some (.int y5), some (.int l2), none] [] (emb g1 g2 x d c u t a b6 m o E) 0 0 K := by
        refine rn_iinc (ls' := [some (.ref 44), some (.int y5), some (.int (l2 + 1)), none]) (by exact dc_Gr_findOrder 50 rfl) (by decide) (by exact rfl) (by exact rn_inc_1 _) (by exact rfl) ?_
        refine rn_goto 43 (by exact dc_Gr_findOrder 51 rfl) (by exact rfl) ?_
        exact rn_weak _ (by repeat (first | exact rn_le_0 | apply rn_le_s | apply rn_le_x)) (ih _ _ _ h4)
      exact rn_weak _ (by repeat (first | exact rn_le_0 | apply rn_le_s | apply rn_le_x)) (p_Gr_findOrder_L53_b jx3 _ _ _ _ e2)
def F_Gr_findOrder (b : tG)  : Option (Int32 × tG) :=
  Option.bind (F_Gr_emptyable b ) fun x2 =>
  Option.bind (F_Gr_findReached b x2) fun b5 =>
  Option.bind (F_Gr_findOrder_L10 b5 rn_fu (0 : Int32)) fun z15 =>
  match z15 with
  | .inl r14 => some r14
  | .inr _ =>
    Option.bind (F_Gr_findOrder_L43  rn_fu b5 (0 : Int32) (0 : Int32)) fun b13 =>
    some ((1 : Int32), b13)
set_option maxHeartbeats 4000000 in
set_option maxRecDepth 100000 in
theorem c_Gr_findOrder_b {Z : rn_Z} {g1 g2 : Nat} {x : tX} {d : tD} {c : tC} {u : tU} {t : tT} {a : tG} {b : tG} {m : tM} {o : tO} {E : List rn_C}  {res : Int32} {bR : tG} (h : F_Gr_findOrder b  = some (res, bR)) : Call Z M_Gr_findOrder [.ref 44] (emb g1 g2 x d c u t a b m o E) 0 0 (some (.int res)) (emb g1 g2 x d c u t a bR m o E) := by
  unfold F_Gr_findOrder at h
  refine rn_call (by decide) 3 (by exact Nat.le_of_ble_eq_true rfl) ?_
  show Rn Z M_Gr_findOrder 0 [some (.ref 44), none, none, none] [] (emb g1 g2 x d c u t a b m o E) 0 0 _
  refine rn_aload_n (by exact dc_Gr_findOrder 0 rfl) (by exact rfl) ?_
  refine rn_aload_n (by exact dc_Gr_findOrder 1 rfl) (by exact rfl) ?_
  obtain ⟨x2, e1, h3⟩ := rn_bind h
  clear h
  refine rn_invV0 (by exact c_Gr_emptyable_b e1) iv_Gr_44 (by exact ⟨Nat.le_of_ble_eq_true rfl, Nat.le_of_ble_eq_true rfl⟩) (by exact dc_Gr_findOrder 2 rfl) (by exact rfl) (by exact rfl) (by exact rfl) (by exact Nat.le_of_ble_eq_true rfl) ?_
  show Rn _ _ 5 [some (.ref 44), none, none, none] [.int x2, .ref 44] (emb g1 g2 x d c u t a b m o E) _ _ _
  obtain ⟨b5, e4, h6⟩ := rn_bind h3
  clear h3
  refine rn_invV0 (by exact c_Gr_findReached_b e4) iv_Gr_48 (by exact ⟨Nat.le_of_ble_eq_true rfl, Nat.le_of_ble_eq_true rfl⟩) (by exact dc_Gr_findOrder 3 rfl) (by exact rfl) (by exact rfl) (by exact rfl) (by exact Nat.le_of_ble_eq_true rfl) ?_
  show Rn _ _ 8 [some (.ref 44), none, none, none] [] (emb g1 g2 x d c u t a b5 m o E) _ _ _
  refine rn_iconst (v := (0 : Int32)) (by exact dc_Gr_findOrder 4 rfl) (by decide) ?_
  refine rn_istore_n (ls' := [some (.ref 44), some (.int (0 : Int32)), none, none]) (by exact dc_Gr_findOrder 5 rfl) (by decide) (by exact rfl) ?_
  obtain ⟨z15, e7, h9⟩ := rn_bind h6
  clear h6
  rcases z15 with ⟨w16, w17⟩ | _
  · dsimp only at h9
    cases h9
    exact rn_weak _ (by repeat (first | exact rn_le_0 | apply rn_le_s | apply rn_le_x)) (p_Gr_findOrder_L10_b (fun q => by cases q) (fun _ _ q => by cases q; rfl) _ _ e7)
  · dsimp only at h9
    have jx8 : Rn Z M_Gr_findOrder 39 [some (.ref 44), none, none, none] [] (emb g1 g2 x d c u t a b5 m o E) 0 0 (rn_Ret Z (some (.int res)) (emb g1 g2 x d c u t a bR m o E)) := by
      refine rn_iconst (v := (0 : Int32)) (by exact dc_Gr_findOrder 21 rfl) (by decide) ?_
      refine rn_istore_n (ls' := [some (.ref 44), some (.int (0 : Int32)), none, none]) (by exact dc_Gr_findOrder 22 rfl) (by decide) (by exact rfl) ?_
      refine rn_iconst (v := (0 : Int32)) (by exact dc_Gr_findOrder 23 rfl) (by decide) ?_
      refine rn_istore_n (ls' := [some (.ref 44), some (.int (0 : Int32)), some (.int (0 : Int32)), none]) (by exact dc_Gr_findOrder 24 rfl) (by decide) (by exact rfl) ?_
      obtain ⟨b13, e10, h12⟩ := rn_bind h9
      clear h9
      have jx11 : Rn Z M_Gr_findOrder 96 [none, none, none, none] [] (emb g1 g2 x d c u t a b13 m o E) 0 0 (rn_Ret Z (some (.int res)) (emb g1 g2 x d c u t a bR m o E)) := by
        refine rn_iconst (v := (1 : Int32)) (by exact dc_Gr_findOrder 52 rfl) (by decide) ?_
        cases h12
        exact rn_zreturn (by exact dc_Gr_findOrder 53 rfl) (by exact rfl) (by first | exact Or.inl rfl | exact Or.inr rfl)
      exact rn_weak _ (by repeat (first | exact rn_le_0 | apply rn_le_s | apply rn_le_x)) (p_Gr_findOrder_L43_b jx11 _ _ _ _ e10)
    exact rn_weak _ (by repeat (first | exact rn_le_0 | apply rn_le_s | apply rn_le_x)) (p_Gr_findOrder_L10_b (fun q => by cases q; exact jx8) (fun _ _ q => by cases q) _ _ e7)
def F_Rd_seen (d : tD) (r : tR)  : Option Int32 :=
  Option.bind (
    if (R_end r) ≤ (R_at r) then (
      some (-1 : Int32)
    ) else (
      Option.bind (aG (D_characters d) 300 (R_at r)) fun x6 =>
      some (x6 : Int32)
    )
   : Option Int32) fun y1 =>
  some y1
set_option maxHeartbeats 4000000 in
set_option maxRecDepth 100000 in
theorem c_Rd_seen {Z : rn_Z} {g1 g2 : Nat} {x : tX} {d : tD} {c : tC} {u : tU} {t : tT} {a : tG} {b : tG} {m : tM} {o : tO} {r : tR}  {res : Int32} (h : F_Rd_seen d r  = some res) : Call Z M_Rd_seen [.ref 77] (emb g1 g2 x d c u t a b m o [rd_cell r]) 0 0 (some (.int res)) (emb g1 g2 x d c u t a b m o [rd_cell r]) := by
  unfold F_Rd_seen at h
  refine rn_call (by decide) 0 (by exact Nat.le_of_ble_eq_true rfl) ?_
  show Rn Z M_Rd_seen 0 [some (.ref 77)] [] (emb g1 g2 x d c u t a b m o [rd_cell r]) 0 0 _
  refine rn_aload_n (by exact dc_Rd_seen 0 rfl) (by exact rfl) ?_
  refine rn_getf (v := .int (R_at r)) fd_Rd_19 (by exact dc_Rd_seen 1 rfl) (by exact rfl) (by exact rfl) ?_
  refine rn_aload_n (by exact dc_Rd_seen 2 rfl) (by exact rfl) ?_
  refine rn_getf (v := .int (R_end r)) fd_Rd_23 (by exact dc_Rd_seen 3 rfl) (by exact rfl) (by exact rfl) ?_
  obtain ⟨y1, e2, h4⟩ := rn_bind h
  clear h
  have jq3 : Rn Z M_Rd_seen 27 [none] [.int y1] (emb g1 g2 x d c u t a b m o [rd_cell r]) 0 0 (rn_Ret Z (some (.int res)) (emb g1 g2 x d c u t a b m o [rd_cell r])) := by
    cases h4
    exact rn_ireturn (by exact dc_Rd_seen 13 rfl) (by exact rfl)
  by_cases c5 : (R_end r) ≤ (R_at r)
  · replace e2 := rn_ifp c5 e2
    refine rn_icmp_ge_t 26 (by exact dc_Rd_seen 4 rfl) (by exact rfl) c5 ?_
    refine rn_iconst (v := (-1 : Int32)) (by exact dc_Rd_seen 12 rfl) (by decide) ?_
    cases e2
    exact rn_weak _ (by repeat (first | exact rn_le_0 | apply rn_le_s | apply rn_le_x)) jq3
  · replace e2 := rn_ifn c5 e2
    refine rn_icmp_ge_f 26 (by exact dc_Rd_seen 4 rfl) (by exact rfl) c5 ?_
    refine rn_aload_n (by exact dc_Rd_seen 5 rfl) (by exact rfl) ?_
    refine rn_getf (v := .ref 2) fd_Rd_9 (by exact dc_Rd_seen 6 rfl) (by exact rfl) (by exact rfl) ?_
    refine rn_getf (v := .ref 3) fd_Rd_112 (by exact dc_Rd_seen 7 rfl) (by exact rfl) (by exact rfl) ?_
    refine rn_aload_n (by exact dc_Rd_seen 8 rfl) (by exact rfl) ?_
    refine rn_getf (v := .int (R_at r)) fd_Rd_19 (by exact dc_Rd_seen 9 rfl) (by exact rfl) (by exact rfl) ?_
    obtain ⟨x6, e7, h8⟩ := rn_bind e2
    clear e2
    refine rn_caload (by exact dc_Rd_seen 10 rfl) (by exact rfl) e7 ?_
    refine rn_goto 27 (by exact dc_Rd_seen 11 rfl) (by exact rfl) ?_
    cases h8
    exact rn_weak _ (by repeat (first | exact rn_le_0 | apply rn_le_s | apply rn_le_x)) jq3
def F_Rd_sees (d : tD) (r : tR) (v0 : Int32) : Option Int32 :=
  Option.bind (F_Rd_seen d r ) fun x2 =>
  Option.bind (
    if ¬ x2 = v0 then (
      some (0 : Int32)
    ) else (
      some (1 : Int32)
    )
   : Option Int32) fun y4 =>
  Option.bind (rn_bl y4) fun y9 =>
  some y9
set_option maxHeartbeats 4000000 in
set_option maxRecDepth 100000 in
theorem c_Rd_sees {Z : rn_Z} {g1 g2 : Nat} {x : tX} {d : tD} {c : tC} {u : tU} {t : tT} {a : tG} {b : tG} {m : tM} {o : tO} {r : tR} {v0 : Int32} {res : Int32} (h : F_Rd_sees d r v0 = some res) : Call Z M_Rd_sees [.ref 77, .int v0] (emb g1 g2 x d c u t a b m o [rd_cell r]) 0 0 (some (.int res)) (emb g1 g2 x d c u t a b m o [rd_cell r]) := by
  unfold F_Rd_sees at h
  refine rn_call (by decide) 0 (by exact Nat.le_of_ble_eq_true rfl) ?_
  show Rn Z M_Rd_sees 0 [some (.ref 77), some (.int v0)] [] (emb g1 g2 x d c u t a b m o [rd_cell r]) 0 0 _
  refine rn_aload_n (by exact dc_Rd_sees 0 rfl) (by exact rfl) ?_
  obtain ⟨x2, e1, h3⟩ := rn_bind h
  clear h
  refine rn_invV0 (by exact c_Rd_seen e1) iv_Rd_71 (by exact ⟨Nat.le_of_ble_eq_true rfl, Nat.le_of_ble_eq_true rfl⟩) (by exact dc_Rd_sees 1 rfl) (by exact rfl) (by exact rfl) (by exact rfl) (by exact Nat.le_of_ble_eq_true rfl) ?_
  show Rn _ _ 4 [some (.ref 77), some (.int v0)] [.int x2] (emb g1 g2 x d c u t a b m o [rd_cell r]) _ _ _
  refine rn_iload_n (by exact dc_Rd_sees 2 rfl) (by exact rfl) ?_
  obtain ⟨y4, e5, h7⟩ := rn_bind h3
  clear h3
  have jq6 : Rn Z M_Rd_sees 13 [none, none] [.int y4] (emb g1 g2 x d c u t a b m o [rd_cell r]) 0 0 (rn_Ret Z (some (.int res)) (emb g1 g2 x d c u t a b m o [rd_cell r])) := by
    obtain ⟨y9, e10, h12⟩ := rn_bind h7
    clear h7
    obtain ⟨rfl, hb11⟩ := rn_bl_some e10
    cases h12
    exact rn_zreturn (by exact dc_Rd_sees 7 rfl) (by exact rfl) hb11
  by_cases c8 : ¬ x2 = v0
  · replace e5 := rn_ifp c8 e5
    refine rn_icmp_ne_t 12 (by exact dc_Rd_sees 3 rfl) (by exact rfl) c8 ?_
    refine rn_iconst (v := (0 : Int32)) (by exact dc_Rd_sees 6 rfl) (by decide) ?_
    cases e5
    exact rn_weak _ (by repeat (first | exact rn_le_0 | apply rn_le_s | apply rn_le_x)) jq6
  · replace e5 := rn_ifn c8 e5
    refine rn_icmp_ne_f 12 (by exact dc_Rd_sees 3 rfl) (by exact rfl) (Classical.not_not.mp c8) ?_
    refine rn_iconst (v := (1 : Int32)) (by exact dc_Rd_sees 4 rfl) (by decide) ?_
    refine rn_goto 13 (by exact dc_Rd_sees 5 rfl) (by exact rfl) ?_
    cases e5
    exact rn_weak _ (by repeat (first | exact rn_le_0 | apply rn_le_s | apply rn_le_x)) jq6
def F_Rd_isLeftOut (d : tD) (r : tR)  : Option Int32 :=
  Option.bind (
    if (R_at r) = (R_end r) then (
      some (1 : Int32)
    ) else (
      Option.bind (F_Rd_sees d r (35 : Int32)) fun x7 =>
      if x7 = 0 then (
        some (0 : Int32)
      ) else (
        some (1 : Int32)
      )
    )
   : Option Int32) fun y1 =>
  Option.bind (rn_bl y1) fun y10 =>
  some y10
set_option maxHeartbeats 4000000 in
set_option maxRecDepth 100000 in
theorem c_Rd_isLeftOut {Z : rn_Z} {g1 g2 : Nat} {x : tX} {d : tD} {c : tC} {u : tU} {t : tT} {a : tG} {b : tG} {m : tM} {o : tO} {r : tR}  {res : Int32} (h : F_Rd_isLeftOut d r  = some res) : Call Z M_Rd_isLeftOut [.ref 77] (emb g1 g2 x d c u t a b m o [rd_cell r]) 0 0 (some (.int res)) (emb g1 g2 x d c u t a b m o [rd_cell r]) := by
  unfold F_Rd_isLeftOut at h
  refine rn_call (by decide) 0 (by exact Nat.le_of_ble_eq_true rfl) ?_
  show Rn Z M_Rd_isLeftOut 0 [some (.ref 77)] [] (emb g1 g2 x d c u t a b m o [rd_cell r]) 0 0 _
  refine rn_aload_n (by exact dc_Rd_isLeftOut 0 rfl) (by exact rfl) ?_
  refine rn_getf (v := .int (R_at r)) fd_Rd_19 (by exact dc_Rd_isLeftOut 1 rfl) (by exact rfl) (by exact rfl) ?_
  refine rn_aload_n (by exact dc_Rd_isLeftOut 2 rfl) (by exact rfl) ?_
  refine rn_getf (v := .int (R_end r)) fd_Rd_23 (by exact dc_Rd_isLeftOut 3 rfl) (by exact rfl) (by exact rfl) ?_
  obtain ⟨y1, e2, h4⟩ := rn_bind h
  clear h
  have jq3 : Rn Z M_Rd_isLeftOut 25 [none] [.int y1] (emb g1 g2 x d c u t a b m o [rd_cell r]) 0 0 (rn_Ret Z (some (.int res)) (emb g1 g2 x d c u t a b m o [rd_cell r])) := by
    obtain ⟨y10, e11, h13⟩ := rn_bind h4
    clear h4
    obtain ⟨rfl, hb12⟩ := rn_bl_some e11
    cases h13
    exact rn_zreturn (by exact dc_Rd_isLeftOut 12 rfl) (by exact rfl) hb12
  by_cases c5 : (R_at r) = (R_end r)
  · replace e2 := rn_ifp c5 e2
    refine rn_icmp_eq_t 20 (by exact dc_Rd_isLeftOut 4 rfl) (by exact rfl) c5 ?_
    refine rn_iconst (v := (1 : Int32)) (by exact dc_Rd_isLeftOut 9 rfl) (by decide) ?_
    refine rn_goto 25 (by exact dc_Rd_isLeftOut 10 rfl) (by exact rfl) ?_
    cases e2
    exact rn_weak _ (by repeat (first | exact rn_le_0 | apply rn_le_s | apply rn_le_x)) jq3
  · replace e2 := rn_ifn c5 e2
    refine rn_icmp_eq_f 20 (by exact dc_Rd_isLeftOut 4 rfl) (by exact rfl) c5 ?_
    refine rn_aload_n (by exact dc_Rd_isLeftOut 5 rfl) (by exact rfl) ?_
    refine rn_bipush (v := (35 : Int32)) (by exact dc_Rd_isLeftOut 6 rfl) (by decide) ?_
    obtain ⟨x7, e6, h8⟩ := rn_bind e2
    clear e2
    refine rn_invV0 (by exact c_Rd_sees e6) iv_Rd_51 (by exact ⟨Nat.le_of_ble_eq_true rfl, Nat.le_of_ble_eq_true rfl⟩) (by exact dc_Rd_isLeftOut 7 rfl) (by exact rfl) (by exact rfl) (by exact rfl) (by exact Nat.le_of_ble_eq_true rfl) ?_
    show Rn _ _ 17 [some (.ref 77)] [.int x7] (emb g1 g2 x d c u t a b m o [rd_cell r]) _ _ _
    by_cases c9 : x7 = 0
    · replace h8 := rn_ifp c9 h8
      refine rn_if_eq_t 24 (by exact dc_Rd_isLeftOut 8 rfl) (by exact rfl) c9 ?_
      refine rn_iconst (v := (0 : Int32)) (by exact dc_Rd_isLeftOut 11 rfl) (by decide) ?_
      cases h8
      exact rn_weak _ (by repeat (first | exact rn_le_0 | apply rn_le_s | apply rn_le_x)) jq3
    · replace h8 := rn_ifn c9 h8
      refine rn_if_eq_f 24 (by exact dc_Rd_isLeftOut 8 rfl) (by exact rfl) c9 ?_
      refine rn_iconst (v := (1 : Int32)) (by exact dc_Rd_isLeftOut 9 rfl) (by decide) ?_
      refine rn_goto 25 (by exact dc_Rd_isLeftOut 10 rfl) (by exact rfl) ?_
      cases h8
      exact rn_weak _ (by repeat (first | exact rn_le_0 | apply rn_le_s | apply rn_le_x)) jq3
def F_Wt_isCapital (v0 : Int32) : Option Int32 :=
  Option.bind (
    if v0 < (65 : Int32) then (
      some (0 : Int32)
    ) else (
      if (90 : Int32) < v0 then (
        some (0 : Int32)
      ) else (
        some (1 : Int32)
      )
    )
   : Option Int32) fun y1 =>
  Option.bind (rn_bl y1) fun y7 =>
  some y7
set_option maxHeartbeats 4000000 in
set_option maxRecDepth 100000 in
theorem c_Wt_isCapital {Z : rn_Z} {g1 g2 : Nat} {x : tX} {d : tD} {c : tC} {u : tU} {t : tT} {a : tG} {b : tG} {m : tM} {o : tO} {E : List rn_C} {v0 : Int32} {res : Int32} (h : F_Wt_isCapital  v0 = some res) : Call Z M_Wt_isCapital [.int v0] (emb g1 g2 x d c u t a b m o E) 0 0 (some (.int res)) (emb g1 g2 x d c u t a b m o E) := by
  unfold F_Wt_isCapital at h
  refine rn_call (by decide) 0 (by exact Nat.le_of_ble_eq_true rfl) ?_
  show Rn Z M_Wt_isCapital 0 [some (.int v0)] [] (emb g1 g2 x d c u t a b m o E) 0 0 _
  refine rn_iload_n (by exact dc_Wt_isCapital 0 rfl) (by exact rfl) ?_
  refine rn_bipush (v := (65 : Int32)) (by exact dc_Wt_isCapital 1 rfl) (by decide) ?_
  obtain ⟨y1, e2, h4⟩ := rn_bind h
  clear h
  have jq3 : Rn Z M_Wt_isCapital 17 [none] [.int y1] (emb g1 g2 x d c u t a b m o E) 0 0 (rn_Ret Z (some (.int res)) (emb g1 g2 x d c u t a b m o E)) := by
    obtain ⟨y7, e8, h10⟩ := rn_bind h4
    clear h4
    obtain ⟨rfl, hb9⟩ := rn_bl_some e8
    cases h10
    exact rn_zreturn (by exact dc_Wt_isCapital 9 rfl) (by exact rfl) hb9
  by_cases c5 : v0 < (65 : Int32)
  · replace e2 := rn_ifp c5 e2
    refine rn_icmp_lt_t 16 (by exact dc_Wt_isCapital 2 rfl) (by exact rfl) c5 ?_
    refine rn_iconst (v := (0 : Int32)) (by exact dc_Wt_isCapital 8 rfl) (by decide) ?_
    cases e2
    exact rn_weak _ (by repeat (first | exact rn_le_0 | apply rn_le_s | apply rn_le_x)) jq3
  · replace e2 := rn_ifn c5 e2
    refine rn_icmp_lt_f 16 (by exact dc_Wt_isCapital 2 rfl) (by exact rfl) c5 ?_
    refine rn_iload_n (by exact dc_Wt_isCapital 3 rfl) (by exact rfl) ?_
    refine rn_bipush (v := (90 : Int32)) (by exact dc_Wt_isCapital 4 rfl) (by decide) ?_
    by_cases c6 : (90 : Int32) < v0
    · replace e2 := rn_ifp c6 e2
      refine rn_icmp_gt_t 16 (by exact dc_Wt_isCapital 5 rfl) (by exact rfl) c6 ?_
      refine rn_iconst (v := (0 : Int32)) (by exact dc_Wt_isCapital 8 rfl) (by decide) ?_
      cases e2
      exact rn_weak _ (by repeat (first | exact rn_le_0 | apply rn_le_s | apply rn_le_x)) jq3
    · replace e2 := rn_ifn c6 e2
      refine rn_icmp_gt_f 16 (by exact dc_Wt_isCapital 5 rfl) (by exact rfl) c6 ?_
      refine rn_iconst (v := (1 : Int32)) (by exact dc_Wt_isCapital 6 rfl) (by decide) ?_
      refine rn_goto 17 (by exact dc_Wt_isCapital 7 rfl) (by exact rfl) ?_
      cases e2
      exact rn_weak _ (by repeat (first | exact rn_le_0 | apply rn_le_s | apply rn_le_x)) jq3
def F_Gr_nonterminalOf_L2 (b : tG) (l1 : Int32) : Nat → Int32 → Option ((Int32 × tG) ⊕ Unit)
  | 0, _ => none
  | n + 1, l2 =>
    if (G_nonterminalCount b) ≤ l2 then (
      some (.inr ())
    ) else (
      Option.bind (aG (G_capitals b) 6 l2) fun x2 =>
      if ¬ x2 = l1 then (
        F_Gr_nonterminalOf_L2 b l1 n (l2 + 1)
      ) else (
        some (.inl (l2, b))
      )
    )
set_option maxHeartbeats 4000000 in
set_option maxRecDepth 100000 in
theorem p_Gr_nonterminalOf_L2_b {Z : rn_Z} {g1 g2 : Nat} {x : tX} {d : tD} {c : tC} {u : tU} {t : tT} {a : tG} {b : tG} {m : tM} {o : tO} {E : List rn_C}  {l1 : Int32} {K : rn_K} {out : ((Int32 × tG) ⊕ Unit)} (hx : out = .inr () → Rn Z M_Gr_nonterminalOf 28 [some (.ref 44), some (.int l1), none] [] (emb g1 g2 x d c u t a b m o E) 0 0 K) (hr : ∀ (rv : Int32) (bw : tG), out = .inl (rv, bw) → K = rn_Ret Z (some (.int rv)) (emb g1 g2 x d c u t a bw m o E)) (n : Nat) : ∀ (l2 : Int32), F_Gr_nonterminalOf_L2 b l1 n l2 = some out → Rn Z M_Gr_nonterminalOf 2 [some (.ref 44), some (.int l1), some (.int l2)] [] (emb g1 g2 x d c u t a b m o E) 0 0 K := by
  induction n with
  | zero =>
    intro l2 h
    rw [F_Gr_nonterminalOf_L2] at h
    cases h
  | succ n ih =>
    intro l2 h
    rw [F_Gr_nonterminalOf_L2] at h
    refine rn_iload_n (by exact dc_Gr_nonterminalOf 2 rfl) (by exact rfl) ?_
    refine rn_aload_n (by exact dc_Gr_nonterminalOf 3 rfl) (by exact rfl) ?_
    refine rn_getf (v := .int (G_nonterminalCount b)) fd_Gr_38 (by exact dc_Gr_nonterminalOf 4 rfl) (by exact rfl) (by exact rfl) ?_
    by_cases c1 : (G_nonterminalCount b) ≤ l2
    · replace h := rn_ifp c1 h
      refine rn_icmp_ge_t 28 (by exact dc_Gr_nonterminalOf 5 rfl) (by exact rfl) c1 ?_
      cases h
      exact rn_weak _ (by repeat (first | exact rn_le_0 | apply rn_le_s | apply rn_le_x)) (hx rfl)
    · replace h := rn_ifn c1 h
      refine rn_icmp_ge_f 28 (by exact dc_Gr_nonterminalOf 5 rfl) (by exact rfl) c1 ?_
      refine rn_aload_n (by exact dc_Gr_nonterminalOf 6 rfl) (by exact rfl) ?_
      refine rn_getf (v := .ref 50) fd_Gr_28 (by exact dc_Gr_nonterminalOf 7 rfl) (by exact rfl) (by exact rfl) ?_
      refine rn_iload_n (by exact dc_Gr_nonterminalOf 8 rfl) (by exact rfl) ?_
      obtain ⟨x2, e3, h4⟩ := rn_bind h
      clear h
      refine rn_iaload (by exact dc_Gr_nonterminalOf 9 rfl) (by exact rfl) e3 ?_
      refine rn_iload_n (by exact dc_Gr_nonterminalOf 10 rfl) (by exact rfl) ?_
      by_cases c5 : ¬ x2 = l1
      · replace h4 := rn_ifp c5 h4
        refine rn_icmp_ne_t 22 (by exact dc_Gr_nonterminalOf 11 rfl) (by exact rfl) c5 ?_
        refine rn_iinc (ls' := [some (.ref 44), some (.int l1), some (.int (l2 + 1))]) (by exact dc_Gr_nonterminalOf 14 rfl) (by decide) (by exact rfl) (by exact rn_inc_1 _) (by exact rfl) ?_
        refine rn_goto 2 (by exact dc_Gr_nonterminalOf 15 rfl) (by exact rfl) ?_
        exact rn_weak _ (by repeat (first | exact rn_le_0 | apply rn_le_s | apply rn_le_x)) (ih _ h4)
      · replace h4 := rn_ifn c5 h4
        refine rn_icmp_ne_f 22 (by exact dc_Gr_nonterminalOf 11 rfl) (by exact rfl) (Classical.not_not.mp c5) ?_
        refine rn_iload_n (by exact dc_Gr_nonterminalOf 12 rfl) (by exact rfl) ?_
        cases h4
        have hK := hr _ _ rfl
        subst hK
        exact rn_ireturn (by exact dc_Gr_nonterminalOf 13 rfl) (by exact rfl)
def F_Gr_nonterminalOf (b : tG) (v0 : Int32) : Option (Int32 × tG) :=
  Option.bind (F_Gr_nonterminalOf_L2 b v0 rn_fu (0 : Int32)) fun z9 =>
  match z9 with
  | .inl r8 => some r8
  | .inr _ =>
    if ¬ (G_nonterminalCount b) = (6 : Int32) then (
      Option.bind (aS (G_capitals b) 6 (G_nonterminalCount b) v0) fun f5 =>
      some (((G_nonterminalCount b) + (1 : Int32)) - (1 : Int32), (G_heads b, G_bodies b, G_bodyLengths b, G_weights b, G_costs b, f5, G_order b, G_ruleCount b, (G_nonterminalCount b) + (1 : Int32), G_reached b))
    ) else (
      some ((-1 : Int32), b)
    )
set_option maxHeartbeats 4000000 in
set_option maxRecDepth 100000 in
theorem c_Gr_nonterminalOf_b {Z : rn_Z} {g1 g2 : Nat} {x : tX} {d : tD} {c : tC} {u : tU} {t : tT} {a : tG} {b : tG} {m : tM} {o : tO} {E : List rn_C} {v0 : Int32} {res : Int32} {bR : tG} (h : F_Gr_nonterminalOf b v0 = some (res, bR)) : Call Z M_Gr_nonterminalOf [.ref 44, .int v0] (emb g1 g2 x d c u t a b m o E) 0 0 (some (.int res)) (emb g1 g2 x d c u t a bR m o E) := by
  unfold F_Gr_nonterminalOf at h
  refine rn_call (by decide) 1 (by exact Nat.le_of_ble_eq_true rfl) ?_
  show Rn Z M_Gr_nonterminalOf 0 [some (.ref 44), some (.int v0), none] [] (emb g1 g2 x d c u t a b m o E) 0 0 _
  refine rn_iconst (v := (0 : Int32)) (by exact dc_Gr_nonterminalOf 0 rfl) (by decide) ?_
  refine rn_istore_n (ls' := [some (.ref 44), some (.int v0), some (.int (0 : Int32))]) (by exact dc_Gr_nonterminalOf 1 rfl) (by decide) (by exact rfl) ?_
  obtain ⟨z9, e1, h3⟩ := rn_bind h
  clear h
  rcases z9 with ⟨w10, w11⟩ | _
  · dsimp only at h3
    cases h3
    exact rn_weak _ (by repeat (first | exact rn_le_0 | apply rn_le_s | apply rn_le_x)) (p_Gr_nonterminalOf_L2_b (fun q => by cases q) (fun _ _ q => by cases q; rfl) _ _ e1)
  · dsimp only at h3
    have jx2 : Rn Z M_Gr_nonterminalOf 28 [some (.ref 44), some (.int v0), none] [] (emb g1 g2 x d c u t a b m o E) 0 0 (rn_Ret Z (some (.int res)) (emb g1 g2 x d c u t a bR m o E)) := by
      refine rn_aload_n (by exact dc_Gr_nonterminalOf 16 rfl) (by exact rfl) ?_
      refine rn_getf (v := .int (G_nonterminalCount b)) fd_Gr_38 (by exact dc_Gr_nonterminalOf 17 rfl) (by exact rfl) (by exact rfl) ?_
      refine rn_bipush (v := (6 : Int32)) (by exact dc_Gr_nonterminalOf 18 rfl) (by decide) ?_
      by_cases c4 : ¬ (G_nonterminalCount b) = (6 : Int32)
      · replace h3 := rn_ifp c4 h3
        refine rn_icmp_ne_t 39 (by exact dc_Gr_nonterminalOf 19 rfl) (by exact rfl) c4 ?_
        refine rn_aload_n (by exact dc_Gr_nonterminalOf 22 rfl) (by exact rfl) ?_
        refine rn_getf (v := .ref 50) fd_Gr_28 (by exact dc_Gr_nonterminalOf 23 rfl) (by exact rfl) (by exact rfl) ?_
        refine rn_aload_n (by exact dc_Gr_nonterminalOf 24 rfl) (by exact rfl) ?_
        refine rn_getf (v := .int (G_nonterminalCount b)) fd_Gr_38 (by exact dc_Gr_nonterminalOf 25 rfl) (by exact rfl) (by exact rfl) ?_
        refine rn_iload_n (by exact dc_Gr_nonterminalOf 26 rfl) (by exact rfl) ?_
        obtain ⟨f5, e6, h7⟩ := rn_bind h3
        clear h3
        refine rn_iastore (w2 := (emb g1 g2 x d c u t a (G_heads b, G_bodies b, G_bodyLengths b, G_weights b, G_costs b, f5, G_order b, G_ruleCount b, G_nonterminalCount b, G_reached b) m o E)) (by exact dc_Gr_nonterminalOf 27 rfl) (by exact rfl) e6 (by exact rfl) ?_
        refine rn_aload_n (by exact dc_Gr_nonterminalOf 28 rfl) (by exact rfl) ?_
        refine rn_dup (by exact dc_Gr_nonterminalOf 29 rfl) (by exact rfl) ?_
        refine rn_getf (v := .int (G_nonterminalCount b)) fd_Gr_38 (by exact dc_Gr_nonterminalOf 30 rfl) (by exact rfl) (by exact rfl) ?_
        refine rn_iconst (v := (1 : Int32)) (by exact dc_Gr_nonterminalOf 31 rfl) (by decide) ?_
        refine rn_iadd (by exact dc_Gr_nonterminalOf 32 rfl) ?_
        refine rn_putf (w2 := (emb g1 g2 x d c u t a (G_heads b, G_bodies b, G_bodyLengths b, G_weights b, G_costs b, f5, G_order b, G_ruleCount b, (G_nonterminalCount b) + (1 : Int32), G_reached b) m o E)) fd_Gr_38 (by exact dc_Gr_nonterminalOf 33 rfl) (by exact rfl) (by exact rfl) (by exact Nat.le_of_ble_eq_true rfl) (by exact rfl) ?_
        refine rn_aload_n (by exact dc_Gr_nonterminalOf 34 rfl) (by exact rfl) ?_
        refine rn_getf (v := .int ((G_nonterminalCount b) + (1 : Int32))) fd_Gr_38 (by exact dc_Gr_nonterminalOf 35 rfl) (by exact rfl) (by exact rfl) ?_
        refine rn_iconst (v := (1 : Int32)) (by exact dc_Gr_nonterminalOf 36 rfl) (by decide) ?_
        refine rn_isub (by exact dc_Gr_nonterminalOf 37 rfl) ?_
        cases h7
        exact rn_ireturn (by exact dc_Gr_nonterminalOf 38 rfl) (by exact rfl)
      · replace h3 := rn_ifn c4 h3
        refine rn_icmp_ne_f 39 (by exact dc_Gr_nonterminalOf 19 rfl) (by exact rfl) (Classical.not_not.mp c4) ?_
        refine rn_iconst (v := (-1 : Int32)) (by exact dc_Gr_nonterminalOf 20 rfl) (by decide) ?_
        cases h3
        exact rn_ireturn (by exact dc_Gr_nonterminalOf 21 rfl) (by exact rfl)
    exact rn_weak _ (by repeat (first | exact rn_le_0 | apply rn_le_s | apply rn_le_x)) (p_Gr_nonterminalOf_L2_b (fun q => by cases q; exact jx2) (fun _ _ q => by cases q) _ _ e1)
def F_Rd_readSymbol (d : tD) (b : tG) (r : tR)  : Option (Int32 × tG × tR) :=
  Option.bind (F_Rd_seen d r ) fun x2 =>
  Option.bind (F_Wt_isCapital  x2) fun x5 =>
  Option.bind (
    if x5 = 0 then (
      some ((x2 : Int32), b)
    ) else (
      Option.bind (F_Gr_nonterminalOf b x2) fun (x14, b15) =>
      some ((x14 : Int32), b15)
    )
   : Option (Int32 × tG)) fun (y7, b8) =>
  some (y7, b8, ((R_at r) + (1 : Int32), R_end r))
set_option maxHeartbeats 4000000 in
set_option maxRecDepth 100000 in
theorem c_Rd_readSymbol {Z : rn_Z} {g1 g2 : Nat} {x : tX} {d : tD} {c : tC} {u : tU} {t : tT} {a : tG} {b : tG} {m : tM} {o : tO} {r : tR}  {res : Int32} {bR : tG} {rR : tR} (h : F_Rd_readSymbol d b r  = some (res, bR, rR)) : Call Z M_Rd_readSymbol [.ref 77] (emb g1 g2 x d c u t a b m o [rd_cell r]) 0 0 (some (.int res)) (emb g1 g2 x d c u t a bR m o [rd_cell rR]) := by
  unfold F_Rd_readSymbol at h
  refine rn_call (by decide) 1 (by exact Nat.le_of_ble_eq_true rfl) ?_
  show Rn Z M_Rd_readSymbol 0 [some (.ref 77), none] [] (emb g1 g2 x d c u t a b m o [rd_cell r]) 0 0 _
  refine rn_aload_n (by exact dc_Rd_readSymbol 0 rfl) (by exact rfl) ?_
  obtain ⟨x2, e1, h3⟩ := rn_bind h
  clear h
  refine rn_invV0 (by exact c_Rd_seen e1) iv_Rd_71 (by exact ⟨Nat.le_of_ble_eq_true rfl, Nat.le_of_ble_eq_true rfl⟩) (by exact dc_Rd_readSymbol 1 rfl) (by exact rfl) (by exact rfl) (by exact rfl) (by exact Nat.le_of_ble_eq_true rfl) ?_
  show Rn _ _ 4 [some (.ref 77), none] [.int x2] (emb g1 g2 x d c u t a b m o [rd_cell r]) _ _ _
  refine rn_istore_n (ls' := [some (.ref 77), some (.int x2)]) (by exact dc_Rd_readSymbol 2 rfl) (by decide) (by exact rfl) ?_
  refine rn_aload_n (by exact dc_Rd_readSymbol 3 rfl) (by exact rfl) ?_
  refine rn_dup (by exact dc_Rd_readSymbol 4 rfl) (by exact rfl) ?_
  refine rn_getf (v := .int (R_at r)) fd_Rd_19 (by exact dc_Rd_readSymbol 5 rfl) (by exact rfl) (by exact rfl) ?_
  refine rn_iconst (v := (1 : Int32)) (by exact dc_Rd_readSymbol 6 rfl) (by decide) ?_
  refine rn_iadd (by exact dc_Rd_readSymbol 7 rfl) ?_
  refine rn_putf (w2 := (emb g1 g2 x d c u t a b m o [rd_cell ((R_at r) + (1 : Int32), R_end r)])) fd_Rd_19 (by exact dc_Rd_readSymbol 8 rfl) (by exact rfl) (by exact rfl) (by exact Nat.le_of_ble_eq_true rfl) (by exact rfl) ?_
  refine rn_iload_n (by exact dc_Rd_readSymbol 9 rfl) (by exact rfl) ?_
  obtain ⟨x5, e4, h6⟩ := rn_bind h3
  clear h3
  refine rn_invS0 (by exact c_Wt_isCapital e4) is_Rd_74 (by exact ⟨Nat.le_of_ble_eq_true rfl, Nat.le_of_ble_eq_true rfl⟩) (by exact dc_Rd_readSymbol 10 rfl) (by exact rfl) (by exact rfl) (by exact Nat.le_of_ble_eq_true rfl) ?_
  show Rn _ _ 19 [some (.ref 77), some (.int x2)] [.int x5] (emb g1 g2 x d c u t a b m o [rd_cell ((R_at r) + (1 : Int32), R_end r)]) _ _ _
  obtain ⟨⟨y7, b8⟩, e9, h11⟩ := rn_bind h6
  clear h6
  dsimp only at h11
  have jq10 : Rn Z M_Rd_readSymbol 34 [none, none] [.int y7] (emb g1 g2 x d c u t a b8 m o [rd_cell ((R_at r) + (1 : Int32), R_end r)]) 0 0 (rn_Ret Z (some (.int res)) (emb g1 g2 x d c u t a bR m o [rd_cell rR])) := by
    cases h11
    exact rn_ireturn (by exact dc_Rd_readSymbol 18 rfl) (by exact rfl)
  by_cases c12 : x5 = 0
  · replace e9 := rn_ifp c12 e9
    refine rn_if_eq_t 33 (by exact dc_Rd_readSymbol 11 rfl) (by exact rfl) c12 ?_
    refine rn_iload_n (by exact dc_Rd_readSymbol 17 rfl) (by exact rfl) ?_
    cases e9
    exact rn_weak _ (by repeat (first | exact rn_le_0 | apply rn_le_s | apply rn_le_x)) jq10
  · replace e9 := rn_ifn c12 e9
    refine rn_if_eq_f 33 (by exact dc_Rd_readSymbol 11 rfl) (by exact rfl) c12 ?_
    refine rn_aload_n (by exact dc_Rd_readSymbol 12 rfl) (by exact rfl) ?_
    refine rn_getf (v := .ref 44) fd_Rd_15 (by exact dc_Rd_readSymbol 13 rfl) (by exact rfl) (by exact rfl) ?_
    refine rn_iload_n (by exact dc_Rd_readSymbol 14 rfl) (by exact rfl) ?_
    obtain ⟨⟨x14, b15⟩, e13, h16⟩ := rn_bind e9
    clear e9
    dsimp only at h16
    refine rn_invV0 (by exact c_Gr_nonterminalOf_b e13) iv_Rd_93 (by exact ⟨Nat.le_of_ble_eq_true rfl, Nat.le_of_ble_eq_true rfl⟩) (by exact dc_Rd_readSymbol 15 rfl) (by exact rfl) (by exact rfl) (by exact rfl) (by exact Nat.le_of_ble_eq_true rfl) ?_
    show Rn _ _ 30 [some (.ref 77), some (.int x2)] [.int x14] (emb g1 g2 x d c u t a b15 m o [rd_cell ((R_at r) + (1 : Int32), R_end r)]) _ _ _
    refine rn_goto 34 (by exact dc_Rd_readSymbol 16 rfl) (by exact rfl) ?_
    cases h16
    exact rn_weak _ (by repeat (first | exact rn_le_0 | apply rn_le_s | apply rn_le_x)) jq10
end
section
def F_Rd_readHead (d : tD) (b : tG) (r : tR) (v0 : Int32) : Option (Int32 × tG × tR) :=
  Option.bind (F_Rd_seen d r ) fun x2 =>
  Option.bind (F_Wt_isCapital  x2) fun x5 =>
  if ¬ x5 = 0 then (
    Option.bind (F_Rd_readSymbol d b r ) fun (x9, b10, r11) =>
    Option.bind (aS (G_heads b10) 12 v0 x9) fun f13 =>
    Option.bind (aG f13 12 v0) fun x16 =>
    Option.bind (
      if x16 = (-1 : Int32) then (
        some (0 : Int32)
      ) else (
        some (1 : Int32)
      )
     : Option Int32) fun y19 =>
    Option.bind (rn_bl y19) fun y24 =>
    some (y24, (f13, G_bodies b10, G_bodyLengths b10, G_weights b10, G_costs b10, G_capitals b10, G_order b10, G_ruleCount b10, G_nonterminalCount b10, G_reached b10), r11)
  ) else (
    some ((0 : Int32), b, r)
  )
set_option maxHeartbeats 4000000 in
set_option maxRecDepth 100000 in
theorem c_Rd_readHead {Z : rn_Z} {g1 g2 : Nat} {x : tX} {d : tD} {c : tC} {u : tU} {t : tT} {a : tG} {b : tG} {m : tM} {o : tO} {r : tR} {v0 : Int32} {res : Int32} {bR : tG} {rR : tR} (h : F_Rd_readHead d b r v0 = some (res, bR, rR)) : Call Z M_Rd_readHead [.ref 77, .int v0] (emb g1 g2 x d c u t a b m o [rd_cell r]) 0 0 (some (.int res)) (emb g1 g2 x d c u t a bR m o [rd_cell rR]) := by
  unfold F_Rd_readHead at h
  refine rn_call (by decide) 0 (by exact Nat.le_of_ble_eq_true rfl) ?_
  show Rn Z M_Rd_readHead 0 [some (.ref 77), some (.int v0)] [] (emb g1 g2 x d c u t a b m o [rd_cell r]) 0 0 _
  refine rn_aload_n (by exact dc_Rd_readHead 0 rfl) (by exact rfl) ?_
  obtain ⟨x2, e1, h3⟩ := rn_bind h
  clear h
  refine rn_invV0 (by exact c_Rd_seen e1) iv_Rd_71 (by exact ⟨Nat.le_of_ble_eq_true rfl, Nat.le_of_ble_eq_true rfl⟩) (by exact dc_Rd_readHead 1 rfl) (by exact rfl) (by exact rfl) (by exact rfl) (by exact Nat.le_of_ble_eq_true rfl) ?_
  show Rn _ _ 4 [some (.ref 77), some (.int v0)] [.int x2] (emb g1 g2 x d c u t a b m o [rd_cell r]) _ _ _
  obtain ⟨x5, e4, h6⟩ := rn_bind h3
  clear h3
  refine rn_invS0 (by exact c_Wt_isCapital e4) is_Rd_74 (by exact ⟨Nat.le_of_ble_eq_true rfl, Nat.le_of_ble_eq_true rfl⟩) (by exact dc_Rd_readHead 2 rfl) (by exact rfl) (by exact rfl) (by exact Nat.le_of_ble_eq_true rfl) ?_
  show Rn _ _ 7 [some (.ref 77), some (.int v0)] [.int x5] (emb g1 g2 x d c u t a b m o [rd_cell r]) _ _ _
  by_cases c7 : ¬ x5 = 0
  · replace h6 := rn_ifp c7 h6
    refine rn_if_ne_t 12 (by exact dc_Rd_readHead 3 rfl) (by exact rfl) c7 ?_
    refine rn_aload_n (by exact dc_Rd_readHead 6 rfl) (by exact rfl) ?_
    refine rn_getf (v := .ref 44) fd_Rd_15 (by exact dc_Rd_readHead 7 rfl) (by exact rfl) (by exact rfl) ?_
    refine rn_getf (v := .ref 45) fd_Rd_77 (by exact dc_Rd_readHead 8 rfl) (by exact rfl) (by exact rfl) ?_
    refine rn_iload_n (by exact dc_Rd_readHead 9 rfl) (by exact rfl) ?_
    refine rn_aload_n (by exact dc_Rd_readHead 10 rfl) (by exact rfl) ?_
    obtain ⟨⟨x9, b10, r11⟩, e8, h12⟩ := rn_bind h6
    clear h6
    dsimp only at h12
    refine rn_invV0 (by exact c_Rd_readSymbol e8) iv_Rd_81 (by exact ⟨Nat.le_of_ble_eq_true rfl, Nat.le_of_ble_eq_true rfl⟩) (by exact dc_Rd_readHead 11 rfl) (by exact rfl) (by exact rfl) (by exact rfl) (by exact Nat.le_of_ble_eq_true rfl) ?_
    show Rn _ _ 24 [some (.ref 77), some (.int v0)] [.int x9, .int v0, .ref 45] (emb g1 g2 x d c u t a b10 m o [rd_cell r11]) _ _ _
    obtain ⟨f13, e14, h15⟩ := rn_bind h12
    clear h12
    refine rn_iastore (w2 := (emb g1 g2 x d c u t a (f13, G_bodies b10, G_bodyLengths b10, G_weights b10, G_costs b10, G_capitals b10, G_order b10, G_ruleCount b10, G_nonterminalCount b10, G_reached b10) m o [rd_cell r11])) (by exact dc_Rd_readHead 12 rfl) (by exact rfl) e14 (by exact rfl) ?_
    refine rn_aload_n (by exact dc_Rd_readHead 13 rfl) (by exact rfl) ?_
    refine rn_getf (v := .ref 44) fd_Rd_15 (by exact dc_Rd_readHead 14 rfl) (by exact rfl) (by exact rfl) ?_
    refine rn_getf (v := .ref 45) fd_Rd_77 (by exact dc_Rd_readHead 15 rfl) (by exact rfl) (by exact rfl) ?_
    refine rn_iload_n (by exact dc_Rd_readHead 16 rfl) (by exact rfl) ?_
    obtain ⟨x16, e17, h18⟩ := rn_bind h15
    clear h15
    refine rn_iaload (by exact dc_Rd_readHead 17 rfl) (by exact rfl) e17 ?_
    refine rn_iconst (v := (-1 : Int32)) (by exact dc_Rd_readHead 18 rfl) (by decide) ?_
    obtain ⟨y19, e20, h22⟩ := rn_bind h18
    clear h18
    have jq21 : Rn Z M_Rd_readHead 43 [none, none] [.int y19] (emb g1 g2 x d c u t a (f13, G_bodies b10, G_bodyLengths b10, G_weights b10, G_costs b10, G_capitals b10, G_order b10, G_ruleCount b10, G_nonterminalCount b10, G_reached b10) m o [rd_cell r11]) 0 0 (rn_Ret Z (some (.int res)) (emb g1 g2 x d c u t a bR m o [rd_cell rR])) := by
      obtain ⟨y24, e25, h27⟩ := rn_bind h22
      clear h22
      obtain ⟨rfl, hb26⟩ := rn_bl_some e25
      cases h27
      exact rn_zreturn (by exact dc_Rd_readHead 23 rfl) (by exact rfl) hb26
    by_cases c23 : x16 = (-1 : Int32)
    · replace e20 := rn_ifp c23 e20
      refine rn_icmp_eq_t 42 (by exact dc_Rd_readHead 19 rfl) (by exact rfl) c23 ?_
      refine rn_iconst (v := (0 : Int32)) (by exact dc_Rd_readHead 22 rfl) (by decide) ?_
      cases e20
      exact rn_weak _ (by repeat (first | exact rn_le_0 | apply rn_le_s | apply rn_le_x)) jq21
    · replace e20 := rn_ifn c23 e20
      refine rn_icmp_eq_f 42 (by exact dc_Rd_readHead 19 rfl) (by exact rfl) c23 ?_
      refine rn_iconst (v := (1 : Int32)) (by exact dc_Rd_readHead 20 rfl) (by decide) ?_
      refine rn_goto 43 (by exact dc_Rd_readHead 21 rfl) (by exact rfl) ?_
      cases e20
      exact rn_weak _ (by repeat (first | exact rn_le_0 | apply rn_le_s | apply rn_le_x)) jq21
  · replace h6 := rn_ifn c7 h6
    refine rn_if_ne_f 12 (by exact dc_Rd_readHead 3 rfl) (by exact rfl) (Classical.not_not.mp c7) ?_
    refine rn_iconst (v := (0 : Int32)) (by exact dc_Rd_readHead 4 rfl) (by decide) ?_
    cases h6
    exact rn_zreturn (by exact dc_Rd_readHead 5 rfl) (by exact rfl) (by first | exact Or.inl rfl | exact Or.inr rfl)
def F_Rd_skip (d : tD) (r : tR) (v0 : Int32) : Option (Int32 × tR) :=
  Option.bind (F_Rd_sees d r v0) fun x2 =>
  if ¬ x2 = 0 then (
    some ((1 : Int32), ((R_at r) + (1 : Int32), R_end r))
  ) else (
    some ((0 : Int32), r)
  )
set_option maxHeartbeats 4000000 in
set_option maxRecDepth 100000 in
theorem c_Rd_skip {Z : rn_Z} {g1 g2 : Nat} {x : tX} {d : tD} {c : tC} {u : tU} {t : tT} {a : tG} {b : tG} {m : tM} {o : tO} {r : tR} {v0 : Int32} {res : Int32} {rR : tR} (h : F_Rd_skip d r v0 = some (res, rR)) : Call Z M_Rd_skip [.ref 77, .int v0] (emb g1 g2 x d c u t a b m o [rd_cell r]) 0 0 (some (.int res)) (emb g1 g2 x d c u t a b m o [rd_cell rR]) := by
  unfold F_Rd_skip at h
  refine rn_call (by decide) 0 (by exact Nat.le_of_ble_eq_true rfl) ?_
  show Rn Z M_Rd_skip 0 [some (.ref 77), some (.int v0)] [] (emb g1 g2 x d c u t a b m o [rd_cell r]) 0 0 _
  refine rn_aload_n (by exact dc_Rd_skip 0 rfl) (by exact rfl) ?_
  refine rn_iload_n (by exact dc_Rd_skip 1 rfl) (by exact rfl) ?_
  obtain ⟨x2, e1, h3⟩ := rn_bind h
  clear h
  refine rn_invV0 (by exact c_Rd_sees e1) iv_Rd_51 (by exact ⟨Nat.le_of_ble_eq_true rfl, Nat.le_of_ble_eq_true rfl⟩) (by exact dc_Rd_skip 2 rfl) (by exact rfl) (by exact rfl) (by exact rfl) (by exact Nat.le_of_ble_eq_true rfl) ?_
  show Rn _ _ 5 [some (.ref 77), some (.int v0)] [.int x2] (emb g1 g2 x d c u t a b m o [rd_cell r]) _ _ _
  by_cases c4 : ¬ x2 = 0
  · replace h3 := rn_ifp c4 h3
    refine rn_if_ne_t 10 (by exact dc_Rd_skip 3 rfl) (by exact rfl) c4 ?_
    refine rn_aload_n (by exact dc_Rd_skip 6 rfl) (by exact rfl) ?_
    refine rn_dup (by exact dc_Rd_skip 7 rfl) (by exact rfl) ?_
    refine rn_getf (v := .int (R_at r)) fd_Rd_19 (by exact dc_Rd_skip 8 rfl) (by exact rfl) (by exact rfl) ?_
    refine rn_iconst (v := (1 : Int32)) (by exact dc_Rd_skip 9 rfl) (by decide) ?_
    refine rn_iadd (by exact dc_Rd_skip 10 rfl) ?_
    refine rn_putf (w2 := (emb g1 g2 x d c u t a b m o [rd_cell ((R_at r) + (1 : Int32), R_end r)])) fd_Rd_19 (by exact dc_Rd_skip 11 rfl) (by exact rfl) (by exact rfl) (by exact Nat.le_of_ble_eq_true rfl) (by exact rfl) ?_
    refine rn_iconst (v := (1 : Int32)) (by exact dc_Rd_skip 12 rfl) (by decide) ?_
    cases h3
    exact rn_zreturn (by exact dc_Rd_skip 13 rfl) (by exact rfl) (by first | exact Or.inl rfl | exact Or.inr rfl)
  · replace h3 := rn_ifn c4 h3
    refine rn_if_ne_f 10 (by exact dc_Rd_skip 3 rfl) (by exact rfl) (Classical.not_not.mp c4) ?_
    refine rn_iconst (v := (0 : Int32)) (by exact dc_Rd_skip 4 rfl) (by decide) ?_
    cases h3
    exact rn_zreturn (by exact dc_Rd_skip 5 rfl) (by exact rfl) (by first | exact Or.inl rfl | exact Or.inr rfl)
def F_Rd_readBody_L2 (d : tD) (l1 : Int32) : Nat → tG → tR → Int32 → Option ((Int32 × tG × tR) ⊕ (Int32 × tG × tR))
  | 0, _, _, _ => none
  | n + 1, b, r, l2 =>
    if (4 : Int32) ≤ l2 then (
      some (.inr (l2, b, r))
    ) else (
      Option.bind (F_Rd_seen d r ) fun x3 =>
      Option.bind (F_Wt_isCapital  x3) fun x6 =>
      if ¬ x6 = 0 then (
        Option.bind (F_Rd_readSymbol d b r ) fun (x10, b11, r12) =>
        if ¬ x10 = (-1 : Int32) then (
          Option.bind (aS (G_bodies b11) 48 ((l1 * (4 : Int32)) + l2) x10) fun f15 =>
          F_Rd_readBody_L2 d l1 n (G_heads b11, f15, G_bodyLengths b11, G_weights b11, G_costs b11, G_capitals b11, G_order b11, G_ruleCount b11, G_nonterminalCount b11, G_reached b11) r12 (l2 + 1)
        ) else (
          some (.inl ((0 : Int32), b11, r12))
        )
      ) else (
        Option.bind (F_Rd_seen d r ) fun x19 =>
        Option.bind (F_Wt_isSmallLetter  x19) fun x22 =>
        if x22 = 0 then (
          some (.inr (l2, b, r))
        ) else (
          Option.bind (F_Rd_readSymbol d b r ) fun (x26, b27, r28) =>
          if ¬ x26 = (-1 : Int32) then (
            Option.bind (aS (G_bodies b27) 48 ((l1 * (4 : Int32)) + l2) x26) fun f31 =>
            F_Rd_readBody_L2 d l1 n (G_heads b27, f31, G_bodyLengths b27, G_weights b27, G_costs b27, G_capitals b27, G_order b27, G_ruleCount b27, G_nonterminalCount b27, G_reached b27) r28 (l2 + 1)
          ) else (
            some (.inl ((0 : Int32), b27, r28))
          )
        )
      )
    )
set_option maxHeartbeats 4000000 in
set_option maxRecDepth 100000 in
theorem p_Rd_readBody_L2 {Z : rn_Z} {g1 g2 : Nat} {x : tX} {d : tD} {c : tC} {u : tU} {t : tT} {a : tG}  {m : tM} {o : tO}   {l1 : Int32} {K : rn_K} {out : ((Int32 × tG × tR) ⊕ (Int32 × tG × tR))} (hx : ∀ (z2 : Int32) (bz : tG) (rz : tR), out = .inr (z2, bz, rz) → Rn Z M_Rd_readBody 59 [some (.ref 77), some (.int l1), some (.int z2), none] [] (emb g1 g2 x d c u t a bz m o [rd_cell rz]) 0 0 K) (hr : ∀ (rv : Int32) (bw : tG) (rw : tR), out = .inl (rv, bw, rw) → K = rn_Ret Z (some (.int rv)) (emb g1 g2 x d c u t a bw m o [rd_cell rw])) (n : Nat) : ∀ (b : tG) (r : tR) (l2 : Int32), F_Rd_readBody_L2 d l1 n b r l2 = some out → Rn Z M_Rd_readBody 2 [some (.ref 77), some (.int l1), some (.int l2), none] [] (emb g1 g2 x d c u t a b m o [rd_cell r]) 0 0 K := by
  induction n with
  | zero =>
    intro b r l2 h
    rw [F_Rd_readBody_L2] at h
    cases h
  | succ n ih =>
    intro b r l2 h
    rw [F_Rd_readBody_L2] at h
    refine rn_iload_n (by exact dc_Rd_readBody 2 rfl) (by exact rfl) ?_
    refine rn_iconst (v := (4 : Int32)) (by exact dc_Rd_readBody 3 rfl) (by decide) ?_
    by_cases c1 : (4 : Int32) ≤ l2
    · replace h := rn_ifp c1 h
      refine rn_icmp_ge_t 59 (by exact dc_Rd_readBody 4 rfl) (by exact rfl) c1 ?_
      cases h
      exact rn_weak _ (by repeat (first | exact rn_le_0 | apply rn_le_s | apply rn_le_x)) (hx _ _ _ rfl)
    · replace h := rn_ifn c1 h
      refine rn_icmp_ge_f 59 (by exact dc_Rd_readBody 4 rfl) (by exact rfl) c1 ?_
      refine rn_aload_n (by exact dc_Rd_readBody 5 rfl) (by exact rfl) ?_
      obtain ⟨x3, e2, h4⟩ := rn_bind h
      clear h
      refine rn_invV0 (by exact c_Rd_seen e2) iv_Rd_71 (by exact ⟨Nat.le_of_ble_eq_true rfl, Nat.le_of_ble_eq_true rfl⟩) (by exact dc_Rd_readBody 6 rfl) (by exact rfl) (by exact rfl) (by exact rfl) (by exact Nat.le_of_ble_eq_true rfl) ?_
      show Rn _ _ 11 [some (.ref 77), some (.int l1), some (.int l2), none] [.int x3] (emb g1 g2 x d c u t a b m o [rd_cell r]) _ _ _
      obtain ⟨x6, e5, h7⟩ := rn_bind h4
      clear h4
      refine rn_invS0 (by exact c_Wt_isCapital e5) is_Rd_74 (by exact ⟨Nat.le_of_ble_eq_true rfl, Nat.le_of_ble_eq_true rfl⟩) (by exact dc_Rd_readBody 7 rfl) (by exact rfl) (by exact rfl) (by exact Nat.le_of_ble_eq_true rfl) ?_
      show Rn _ _ 14 [some (.ref 77), some (.int l1), some (.int l2), none] [.int x6] (emb g1 g2 x d c u t a b m o [rd_cell r]) _ _ _
      by_cases c8 : ¬ x6 = 0
      · replace h7 := rn_ifp c8 h7
        refine rn_if_ne_t 27 (by exact dc_Rd_readBody 8 rfl) (by exact rfl) c8 ?_
        refine rn_aload_n (by exact dc_Rd_readBody 13 rfl) (by exact rfl) ?_
        obtain ⟨⟨x10, b11, r12⟩, e9, h13⟩ := rn_bind h7
        clear h7
        dsimp only at h13
        refine rn_invV0 (by exact c_Rd_readSymbol e9) iv_Rd_81 (by exact ⟨Nat.le_of_ble_eq_true rfl, Nat.le_of_ble_eq_true rfl⟩) (by exact dc_Rd_readBody 14 rfl) (by exact rfl) (by exact rfl) (by exact rfl) (by exact Nat.le_of_ble_eq_true rfl) ?_
        show Rn _ _ 31 [some (.ref 77), some (.int l1), some (.int l2), none] [.int x10] (emb g1 g2 x d c u t a b11 m o [rd_cell r12]) _ _ _
        refine rn_istore_n (ls' := [some (.ref 77), some (.int l1), some (.int l2), some (.int x10)]) (by exact dc_Rd_readBody 15 rfl) (by decide) (by exact rfl) ?_
        refine rn_iload_n (by exact dc_Rd_readBody 16 rfl) (by exact rfl) ?_
        refine rn_iconst (v := (-1 : Int32)) (by exact dc_Rd_readBody 17 rfl) (by decide) ?_
        by_cases c14 : ¬ x10 = (-1 : Int32)
        · replace h13 := rn_ifp c14 h13
          refine rn_icmp_ne_t 39 (by exact dc_Rd_readBody 18 rfl) (by exact rfl) c14 ?_
          refine rn_aload_n (by exact dc_Rd_readBody 21 rfl) (by exact rfl) ?_
          refine rn_getf (v := .ref 44) fd_Rd_15 (by exact dc_Rd_readBody 22 rfl) (by exact rfl) (by exact rfl) ?_
          refine rn_getf (v := .ref 46) fd_Rd_87 (by exact dc_Rd_readBody 23 rfl) (by exact rfl) (by exact rfl) ?_
          refine rn_iload_n (by exact dc_Rd_readBody 24 rfl) (by exact rfl) ?_
          refine rn_iconst (v := (4 : Int32)) (by exact dc_Rd_readBody 25 rfl) (by decide) ?_
          refine rn_imul (by exact dc_Rd_readBody 26 rfl) ?_
          refine rn_iload_n (by exact dc_Rd_readBody 27 rfl) (by exact rfl) ?_
          refine rn_iadd (by exact dc_Rd_readBody 28 rfl) ?_
          refine rn_iload_n (by exact dc_Rd_readBody 29 rfl) (by exact rfl) ?_
          obtain ⟨f15, e16, h17⟩ := rn_bind h13
          clear h13
          refine rn_iastore (w2 := (emb g1 g2 x d c u t a (G_heads b11, f15, G_bodyLengths b11, G_weights b11, G_costs b11, G_capitals b11, G_order b11, G_ruleCount b11, G_nonterminalCount b11, G_reached b11) m o [rd_cell r12])) (by exact dc_Rd_readBody 30 rfl) (by exact rfl) e16 (by exact rfl) ?_
          refine rn_iinc (ls' := [some (.ref 77), some (.int l1), some (.int (l2 + 1)), some (.int x10)]) (by exact dc_Rd_readBody 31 rfl) (by decide) (by exact rfl) (by exact rn_inc_1 _) (by exact rfl) ?_
          refine rn_goto 2 (by exact dc_Rd_readBody 32 rfl) (by exact rfl) ?_
          exact rn_weak _ (by repeat (first | exact rn_le_0 | apply rn_le_s | apply rn_le_x)) (ih _ _ _ h17)
        · replace h13 := rn_ifn c14 h13
          refine rn_icmp_ne_f 39 (by exact dc_Rd_readBody 18 rfl) (by exact rfl) (Classical.not_not.mp c14) ?_
          refine rn_iconst (v := (0 : Int32)) (by exact dc_Rd_readBody 19 rfl) (by decide) ?_
          cases h13
          have hK := hr _ _ _ rfl
          subst hK
          exact rn_zreturn (by exact dc_Rd_readBody 20 rfl) (by exact rfl) (by first | exact Or.inl rfl | exact Or.inr rfl)
      · replace h7 := rn_ifn c8 h7
        refine rn_if_ne_f 27 (by exact dc_Rd_readBody 8 rfl) (by exact rfl) (Classical.not_not.mp c8) ?_
        refine rn_aload_n (by exact dc_Rd_readBody 9 rfl) (by exact rfl) ?_
        obtain ⟨x19, e18, h20⟩ := rn_bind h7
        clear h7
        refine rn_invV0 (by exact c_Rd_seen e18) iv_Rd_71 (by exact ⟨Nat.le_of_ble_eq_true rfl, Nat.le_of_ble_eq_true rfl⟩) (by exact dc_Rd_readBody 10 rfl) (by exact rfl) (by exact rfl) (by exact rfl) (by exact Nat.le_of_ble_eq_true rfl) ?_
        show Rn _ _ 21 [some (.ref 77), some (.int l1), some (.int l2), none] [.int x19] (emb g1 g2 x d c u t a b m o [rd_cell r]) _ _ _
        obtain ⟨x22, e21, h23⟩ := rn_bind h20
        clear h20
        refine rn_invS0 (by exact c_Wt_isSmallLetter e21) is_Rd_84 (by exact ⟨Nat.le_of_ble_eq_true rfl, Nat.le_of_ble_eq_true rfl⟩) (by exact dc_Rd_readBody 11 rfl) (by exact rfl) (by exact rfl) (by exact Nat.le_of_ble_eq_true rfl) ?_
        show Rn _ _ 24 [some (.ref 77), some (.int l1), some (.int l2), none] [.int x22] (emb g1 g2 x d c u t a b m o [rd_cell r]) _ _ _
        by_cases c24 : x22 = 0
        · replace h23 := rn_ifp c24 h23
          refine rn_if_eq_t 59 (by exact dc_Rd_readBody 12 rfl) (by exact rfl) c24 ?_
          cases h23
          exact rn_weak _ (by repeat (first | exact rn_le_0 | apply rn_le_s | apply rn_le_x)) (hx _ _ _ rfl)
        · replace h23 := rn_ifn c24 h23
          refine rn_if_eq_f 59 (by exact dc_Rd_readBody 12 rfl) (by exact rfl) c24 ?_
          refine rn_aload_n (by exact dc_Rd_readBody 13 rfl) (by exact rfl) ?_
          obtain ⟨⟨x26, b27, r28⟩, e25, h29⟩ := rn_bind h23
          clear h23
          dsimp only at h29
          refine rn_invV0 (by exact c_Rd_readSymbol e25) iv_Rd_81 (by exact ⟨Nat.le_of_ble_eq_true rfl, Nat.le_of_ble_eq_true rfl⟩) (by exact dc_Rd_readBody 14 rfl) (by exact rfl) (by exact rfl) (by exact rfl) (by exact Nat.le_of_ble_eq_true rfl) ?_
          show Rn _ _ 31 [some (.ref 77), some (.int l1), some (.int l2), none] [.int x26] (emb g1 g2 x d c u t a b27 m o [rd_cell r28]) _ _ _
          refine rn_istore_n (ls' := [some (.ref 77), some (.int l1), some (.int l2), some (.int x26)]) (by exact dc_Rd_readBody 15 rfl) (by decide) (by exact rfl) ?_
          refine rn_iload_n (by exact dc_Rd_readBody 16 rfl) (by exact rfl) ?_
          refine rn_iconst (v := (-1 : Int32)) (by exact dc_Rd_readBody 17 rfl) (by decide) ?_
          by_cases c30 : ¬ x26 = (-1 : Int32)
          · replace h29 := rn_ifp c30 h29
            refine rn_icmp_ne_t 39 (by exact dc_Rd_readBody 18 rfl) (by exact rfl) c30 ?_
            refine rn_aload_n (by exact dc_Rd_readBody 21 rfl) (by exact rfl) ?_
            refine rn_getf (v := .ref 44) fd_Rd_15 (by exact dc_Rd_readBody 22 rfl) (by exact rfl) (by exact rfl) ?_
            refine rn_getf (v := .ref 46) fd_Rd_87 (by exact dc_Rd_readBody 23 rfl) (by exact rfl) (by exact rfl) ?_
            refine rn_iload_n (by exact dc_Rd_readBody 24 rfl) (by exact rfl) ?_
            refine rn_iconst (v := (4 : Int32)) (by exact dc_Rd_readBody 25 rfl) (by decide) ?_
            refine rn_imul (by exact dc_Rd_readBody 26 rfl) ?_
            refine rn_iload_n (by exact dc_Rd_readBody 27 rfl) (by exact rfl) ?_
            refine rn_iadd (by exact dc_Rd_readBody 28 rfl) ?_
            refine rn_iload_n (by exact dc_Rd_readBody 29 rfl) (by exact rfl) ?_
            obtain ⟨f31, e32, h33⟩ := rn_bind h29
            clear h29
            refine rn_iastore (w2 := (emb g1 g2 x d c u t a (G_heads b27, f31, G_bodyLengths b27, G_weights b27, G_costs b27, G_capitals b27, G_order b27, G_ruleCount b27, G_nonterminalCount b27, G_reached b27) m o [rd_cell r28])) (by exact dc_Rd_readBody 30 rfl) (by exact rfl) e32 (by exact rfl) ?_
            refine rn_iinc (ls' := [some (.ref 77), some (.int l1), some (.int (l2 + 1)), some (.int x26)]) (by exact dc_Rd_readBody 31 rfl) (by decide) (by exact rfl) (by exact rn_inc_1 _) (by exact rfl) ?_
            refine rn_goto 2 (by exact dc_Rd_readBody 32 rfl) (by exact rfl) ?_
            exact rn_weak _ (by repeat (first | exact rn_le_0 | apply rn_le_s | apply rn_le_x)) (ih _ _ _ h33)
          · replace h29 := rn_ifn c30 h29
            refine rn_icmp_ne_f 39 (by exact dc_Rd_readBody 18 rfl) (by exact rfl) (Classical.not_not.mp c30) ?_
            refine rn_iconst (v := (0 : Int32)) (by exact dc_Rd_readBody 19 rfl) (by decide) ?_
            cases h29
            have hK := hr _ _ _ rfl
            subst hK
            exact rn_zreturn (by exact dc_Rd_readBody 20 rfl) (by exact rfl) (by first | exact Or.inl rfl | exact Or.inr rfl)
def F_Rd_readBody (d : tD) (b : tG) (r : tR) (v0 : Int32) : Option (Int32 × tG × tR) :=
  Option.bind (F_Rd_readBody_L2 d v0 rn_fu b r (0 : Int32)) fun z11 =>
  match z11 with
  | .inl r10 => some r10
  | .inr (y4, b5, r6) =>
    Option.bind (aS (G_bodyLengths b5) 12 v0 y4) fun f7 =>
    some ((1 : Int32), (G_heads b5, G_bodies b5, f7, G_weights b5, G_costs b5, G_capitals b5, G_order b5, G_ruleCount b5, G_nonterminalCount b5, G_reached b5), r6)
set_option maxHeartbeats 4000000 in
set_option maxRecDepth 100000 in
theorem c_Rd_readBody {Z : rn_Z} {g1 g2 : Nat} {x : tX} {d : tD} {c : tC} {u : tU} {t : tT} {a : tG} {b : tG} {m : tM} {o : tO} {r : tR} {v0 : Int32} {res : Int32} {bR : tG} {rR : tR} (h : F_Rd_readBody d b r v0 = some (res, bR, rR)) : Call Z M_Rd_readBody [.ref 77, .int v0] (emb g1 g2 x d c u t a b m o [rd_cell r]) 0 0 (some (.int res)) (emb g1 g2 x d c u t a bR m o [rd_cell rR]) := by
  unfold F_Rd_readBody at h
  refine rn_call (by decide) 2 (by exact Nat.le_of_ble_eq_true rfl) ?_
  show Rn Z M_Rd_readBody 0 [some (.ref 77), some (.int v0), none, none] [] (emb g1 g2 x d c u t a b m o [rd_cell r]) 0 0 _
  refine rn_iconst (v := (0 : Int32)) (by exact dc_Rd_readBody 0 rfl) (by decide) ?_
  refine rn_istore_n (ls' := [some (.ref 77), some (.int v0), some (.int (0 : Int32)), none]) (by exact dc_Rd_readBody 1 rfl) (by decide) (by exact rfl) ?_
  obtain ⟨z11, e1, h3⟩ := rn_bind h
  clear h
  rcases z11 with ⟨w12, w13, w14⟩ | ⟨y4, b5, r6⟩
  · dsimp only at h3
    cases h3
    exact rn_weak _ (by repeat (first | exact rn_le_0 | apply rn_le_s | apply rn_le_x)) (p_Rd_readBody_L2 (fun _ _ _ q => by cases q) (fun _ _ _ q => by cases q; rfl) _ _ _ _ e1)
  · dsimp only at h3
    have jx2 : Rn Z M_Rd_readBody 59 [some (.ref 77), some (.int v0), some (.int y4), none] [] (emb g1 g2 x d c u t a b5 m o [rd_cell r6]) 0 0 (rn_Ret Z (some (.int res)) (emb g1 g2 x d c u t a bR m o [rd_cell rR])) := by
      refine rn_aload_n (by exact dc_Rd_readBody 33 rfl) (by exact rfl) ?_
      refine rn_getf (v := .ref 44) fd_Rd_15 (by exact dc_Rd_readBody 34 rfl) (by exact rfl) (by exact rfl) ?_
      refine rn_getf (v := .ref 47) fd_Rd_90 (by exact dc_Rd_readBody 35 rfl) (by exact rfl) (by exact rfl) ?_
      refine rn_iload_n (by exact dc_Rd_readBody 36 rfl) (by exact rfl) ?_
      refine rn_iload_n (by exact dc_Rd_readBody 37 rfl) (by exact rfl) ?_
      obtain ⟨f7, e8, h9⟩ := rn_bind h3
      clear h3
      refine rn_iastore (w2 := (emb g1 g2 x d c u t a (G_heads b5, G_bodies b5, f7, G_weights b5, G_costs b5, G_capitals b5, G_order b5, G_ruleCount b5, G_nonterminalCount b5, G_reached b5) m o [rd_cell r6])) (by exact dc_Rd_readBody 38 rfl) (by exact rfl) e8 (by exact rfl) ?_
      refine rn_iconst (v := (1 : Int32)) (by exact dc_Rd_readBody 39 rfl) (by decide) ?_
      cases h9
      exact rn_zreturn (by exact dc_Rd_readBody 40 rfl) (by exact rfl) (by first | exact Or.inl rfl | exact Or.inr rfl)
    exact rn_weak _ (by repeat (first | exact rn_le_0 | apply rn_le_s | apply rn_le_x)) (p_Rd_readBody_L2 (fun _ _ _ q => by cases q; exact jx2) (fun _ _ _ q => by cases q) _ _ _ _ e1)
def F_Rd_readNumber_L4 (d : tD) : Nat → tR → Int32 → Int32 → Option (Int32 × Int32 × tR)
  | 0, _, _, _ => none
  | n + 1, r, l1, l2 =>
    if (3 : Int32) ≤ l2 then (
      some (l1, l2, r)
    ) else (
      Option.bind (F_Rd_seen d r ) fun x3 =>
      if x3 < (48 : Int32) then (
        some (l1, l2, r)
      ) else (
        Option.bind (F_Rd_seen d r ) fun x7 =>
        if (57 : Int32) < x7 then (
          some (l1, l2, r)
        ) else (
          Option.bind (F_Rd_seen d r ) fun x11 =>
          F_Rd_readNumber_L4 d n ((R_at r) + (1 : Int32), R_end r) (((10 : Int32) * l1) + (x11 - (48 : Int32))) (l2 + 1)
        )
      )
    )
set_option maxHeartbeats 4000000 in
set_option maxRecDepth 100000 in
theorem p_Rd_readNumber_L4 {Z : rn_Z} {g1 g2 : Nat} {x : tX} {d : tD} {c : tC} {u : tU} {t : tT} {a : tG} {b : tG} {m : tM} {o : tO}    {K : rn_K} {z1 : Int32} {z2 : Int32} {rz : tR} (hx : Rn Z M_Rd_readNumber 56 [none, some (.int z1), some (.int z2)] [] (emb g1 g2 x d c u t a b m o [rd_cell rz]) 0 0 K) (n : Nat) : ∀ (r : tR) (l1 : Int32) (l2 : Int32), F_Rd_readNumber_L4 d n r l1 l2 = some (z1, z2, rz) → Rn Z M_Rd_readNumber 4 [some (.ref 77), some (.int l1), some (.int l2)] [] (emb g1 g2 x d c u t a b m o [rd_cell r]) 0 0 K := by
  induction n with
  | zero =>
    intro r l1 l2 h
    rw [F_Rd_readNumber_L4] at h
    cases h
  | succ n ih =>
    intro r l1 l2 h
    rw [F_Rd_readNumber_L4] at h
    refine rn_iload_n (by exact dc_Rd_readNumber 4 rfl) (by exact rfl) ?_
    refine rn_iconst (v := (3 : Int32)) (by exact dc_Rd_readNumber 5 rfl) (by decide) ?_
    by_cases c1 : (3 : Int32) ≤ l2
    · replace h := rn_ifp c1 h
      refine rn_icmp_ge_t 56 (by exact dc_Rd_readNumber 6 rfl) (by exact rfl) c1 ?_
      cases h
      exact rn_weak _ (by repeat (first | exact rn_le_0 | apply rn_le_s | apply rn_le_x)) hx
    · replace h := rn_ifn c1 h
      refine rn_icmp_ge_f 56 (by exact dc_Rd_readNumber 6 rfl) (by exact rfl) c1 ?_
      refine rn_aload_n (by exact dc_Rd_readNumber 7 rfl) (by exact rfl) ?_
      obtain ⟨x3, e2, h4⟩ := rn_bind h
      clear h
      refine rn_invV0 (by exact c_Rd_seen e2) iv_Rd_71 (by exact ⟨Nat.le_of_ble_eq_true rfl, Nat.le_of_ble_eq_true rfl⟩) (by exact dc_Rd_readNumber 8 rfl) (by exact rfl) (by exact rfl) (by exact rfl) (by exact Nat.le_of_ble_eq_true rfl) ?_
      show Rn _ _ 13 [some (.ref 77), some (.int l1), some (.int l2)] [.int x3] (emb g1 g2 x d c u t a b m o [rd_cell r]) _ _ _
      refine rn_bipush (v := (48 : Int32)) (by exact dc_Rd_readNumber 9 rfl) (by decide) ?_
      by_cases c5 : x3 < (48 : Int32)
      · replace h4 := rn_ifp c5 h4
        refine rn_icmp_lt_t 56 (by exact dc_Rd_readNumber 10 rfl) (by exact rfl) c5 ?_
        cases h4
        exact rn_weak _ (by repeat (first | exact rn_le_0 | apply rn_le_s | apply rn_le_x)) hx
      · replace h4 := rn_ifn c5 h4
        refine rn_icmp_lt_f 56 (by exact dc_Rd_readNumber 10 rfl) (by exact rfl) c5 ?_
        refine rn_aload_n (by exact dc_Rd_readNumber 11 rfl) (by exact rfl) ?_
        obtain ⟨x7, e6, h8⟩ := rn_bind h4
        clear h4
        refine rn_invV0 (by exact c_Rd_seen e6) iv_Rd_71 (by exact ⟨Nat.le_of_ble_eq_true rfl, Nat.le_of_ble_eq_true rfl⟩) (by exact dc_Rd_readNumber 12 rfl) (by exact rfl) (by exact rfl) (by exact rfl) (by exact Nat.le_of_ble_eq_true rfl) ?_
        show Rn _ _ 22 [some (.ref 77), some (.int l1), some (.int l2)] [.int x7] (emb g1 g2 x d c u t a b m o [rd_cell r]) _ _ _
        refine rn_bipush (v := (57 : Int32)) (by exact dc_Rd_readNumber 13 rfl) (by decide) ?_
        by_cases c9 : (57 : Int32) < x7
        · replace h8 := rn_ifp c9 h8
          refine rn_icmp_gt_t 56 (by exact dc_Rd_readNumber 14 rfl) (by exact rfl) c9 ?_
          cases h8
          exact rn_weak _ (by repeat (first | exact rn_le_0 | apply rn_le_s | apply rn_le_x)) hx
        · replace h8 := rn_ifn c9 h8
          refine rn_icmp_gt_f 56 (by exact dc_Rd_readNumber 14 rfl) (by exact rfl) c9 ?_
          refine rn_bipush (v := (10 : Int32)) (by exact dc_Rd_readNumber 15 rfl) (by decide) ?_
          refine rn_iload_n (by exact dc_Rd_readNumber 16 rfl) (by exact rfl) ?_
          refine rn_imul (by exact dc_Rd_readNumber 17 rfl) ?_
          refine rn_aload_n (by exact dc_Rd_readNumber 18 rfl) (by exact rfl) ?_
          obtain ⟨x11, e10, h12⟩ := rn_bind h8
          clear h8
          refine rn_invV0 (by exact c_Rd_seen e10) iv_Rd_71 (by exact ⟨Nat.le_of_ble_eq_true rfl, Nat.le_of_ble_eq_true rfl⟩) (by exact dc_Rd_readNumber 19 rfl) (by exact rfl) (by exact rfl) (by exact rfl) (by exact Nat.le_of_ble_eq_true rfl) ?_
          show Rn _ _ 35 [some (.ref 77), some (.int l1), some (.int l2)] [.int x11, .int ((10 : Int32) * l1)] (emb g1 g2 x d c u t a b m o [rd_cell r]) _ _ _
          refine rn_bipush (v := (48 : Int32)) (by exact dc_Rd_readNumber 20 rfl) (by decide) ?_
          refine rn_isub (by exact dc_Rd_readNumber 21 rfl) ?_
          refine rn_iadd (by exact dc_Rd_readNumber 22 rfl) ?_
          refine rn_istore_n (ls' := [some (.ref 77), some (.int (((10 : Int32) * l1) + (x11 - (48 : Int32)))), some (.int l2)]) (by exact dc_Rd_readNumber 23 rfl) (by decide) (by exact rfl) ?_
          refine rn_aload_n (by exact dc_Rd_readNumber 24 rfl) (by exact rfl) ?_
          refine rn_dup (by exact dc_Rd_readNumber 25 rfl) (by exact rfl) ?_
          refine rn_getf (v := .int (R_at r)) fd_Rd_19 (by exact dc_Rd_readNumber 26 rfl) (by exact rfl) (by exact rfl) ?_
          refine rn_iconst (v := (1 : Int32)) (by exact dc_Rd_readNumber 27 rfl) (by decide) ?_
          refine rn_iadd (by exact dc_Rd_readNumber 28 rfl) ?_
          refine rn_putf (w2 := (emb g1 g2 x d c u t a b m o [rd_cell ((R_at r) + (1 : Int32), R_end r)])) fd_Rd_19 (by exact dc_Rd_readNumber 29 rfl) (by exact rfl) (by exact rfl) (by exact Nat.le_of_ble_eq_true rfl) (by exact rfl) ?_
          refine rn_iinc (ls' := [some (.ref 77), some (.int (((10 : Int32) * l1) + (x11 - (48 : Int32)))), some (.int (l2 + 1))]) (by exact dc_Rd_readNumber 30 rfl) (by decide) (by exact rfl) (by exact rn_inc_1 _) (by exact rfl) ?_
          refine rn_goto 4 (by exact dc_Rd_readNumber 31 rfl) (by exact rfl) ?_
          exact rn_weak _ (by repeat (first | exact rn_le_0 | apply rn_le_s | apply rn_le_x)) (ih _ _ _ h12)
def F_Rd_readNumber (d : tD) (r : tR)  : Option (Int32 × tR) :=
  Option.bind (F_Rd_readNumber_L4 d rn_fu r (0 : Int32) (0 : Int32)) fun (y4, y5, r6) =>
  Option.bind (
    if ¬ y5 = 0 then (
      some (y4 : Int32)
    ) else (
      some (-1 : Int32)
    )
   : Option Int32) fun y7 =>
  some (y7, r6)
set_option maxHeartbeats 4000000 in
set_option maxRecDepth 100000 in
theorem c_Rd_readNumber {Z : rn_Z} {g1 g2 : Nat} {x : tX} {d : tD} {c : tC} {u : tU} {t : tT} {a : tG} {b : tG} {m : tM} {o : tO} {r : tR}  {res : Int32} {rR : tR} (h : F_Rd_readNumber d r  = some (res, rR)) : Call Z M_Rd_readNumber [.ref 77] (emb g1 g2 x d c u t a b m o [rd_cell r]) 0 0 (some (.int res)) (emb g1 g2 x d c u t a b m o [rd_cell rR]) := by
  unfold F_Rd_readNumber at h
  refine rn_call (by decide) 2 (by exact Nat.le_of_ble_eq_true rfl) ?_
  show Rn Z M_Rd_readNumber 0 [some (.ref 77), none, none] [] (emb g1 g2 x d c u t a b m o [rd_cell r]) 0 0 _
  refine rn_iconst (v := (0 : Int32)) (by exact dc_Rd_readNumber 0 rfl) (by decide) ?_
  refine rn_istore_n (ls' := [some (.ref 77), some (.int (0 : Int32)), none]) (by exact dc_Rd_readNumber 1 rfl) (by decide) (by exact rfl) ?_
  refine rn_iconst (v := (0 : Int32)) (by exact dc_Rd_readNumber 2 rfl) (by decide) ?_
  refine rn_istore_n (ls' := [some (.ref 77), some (.int (0 : Int32)), some (.int (0 : Int32))]) (by exact dc_Rd_readNumber 3 rfl) (by decide) (by exact rfl) ?_
  obtain ⟨⟨y4, y5, r6⟩, e1, h3⟩ := rn_bind h
  clear h
  dsimp only at h3
  have jx2 : Rn Z M_Rd_readNumber 56 [none, some (.int y4), some (.int y5)] [] (emb g1 g2 x d c u t a b m o [rd_cell r6]) 0 0 (rn_Ret Z (some (.int res)) (emb g1 g2 x d c u t a b m o [rd_cell rR])) := by
    refine rn_iload_n (by exact dc_Rd_readNumber 32 rfl) (by exact rfl) ?_
    obtain ⟨y7, e8, h10⟩ := rn_bind h3
    clear h3
    have jq9 : Rn Z M_Rd_readNumber 65 [none, none, none] [.int y7] (emb g1 g2 x d c u t a b m o [rd_cell r6]) 0 0 (rn_Ret Z (some (.int res)) (emb g1 g2 x d c u t a b m o [rd_cell rR])) := by
      cases h10
      exact rn_ireturn (by exact dc_Rd_readNumber 37 rfl) (by exact rfl)
    by_cases c11 : ¬ y5 = 0
    · replace e8 := rn_ifp c11 e8
      refine rn_if_ne_t 64 (by exact dc_Rd_readNumber 33 rfl) (by exact rfl) c11 ?_
      refine rn_iload_n (by exact dc_Rd_readNumber 36 rfl) (by exact rfl) ?_
      cases e8
      exact rn_weak _ (by repeat (first | exact rn_le_0 | apply rn_le_s | apply rn_le_x)) jq9
    · replace e8 := rn_ifn c11 e8
      refine rn_if_ne_f 64 (by exact dc_Rd_readNumber 33 rfl) (by exact rfl) (Classical.not_not.mp c11) ?_
      refine rn_iconst (v := (-1 : Int32)) (by exact dc_Rd_readNumber 34 rfl) (by decide) ?_
      refine rn_goto 65 (by exact dc_Rd_readNumber 35 rfl) (by exact rfl) ?_
      cases e8
      exact rn_weak _ (by repeat (first | exact rn_le_0 | apply rn_le_s | apply rn_le_x)) jq9
  exact rn_weak _ (by repeat (first | exact rn_le_0 | apply rn_le_s | apply rn_le_x)) (p_Rd_readNumber_L4 jx2 _ _ _ _ e1)
def F_Rd_inverse_L5 (l0 : Int64) : Nat → Int64 → Int32 → Option Int64
  | 0, _, _ => none
  | n + 1, l2, l4 =>
    if (5 : Int32) ≤ l4 then (
      some l2
    ) else (
      F_Rd_inverse_L5 l0 n (l2 * ((2 : Int64) - (l0 * l2))) (l4 + 1)
    )
set_option maxHeartbeats 4000000 in
set_option maxRecDepth 100000 in
theorem p_Rd_inverse_L5 {Z : rn_Z} {g1 g2 : Nat} {x : tX} {d : tD} {c : tC} {u : tU} {t : tT} {a : tG} {b : tG} {m : tM} {o : tO} {E : List rn_C}  {l0 : Int64} {K : rn_K} {z2 : Int64} (hx : Rn Z M_Rd_inverse 27 [none, none, some (.long z2), none, none] [] (emb g1 g2 x d c u t a b m o E) 0 0 K) (n : Nat) : ∀ (l2 : Int64) (l4 : Int32), F_Rd_inverse_L5 l0 n l2 l4 = some z2 → Rn Z M_Rd_inverse 5 [some (.long l0), none, some (.long l2), none, some (.int l4)] [] (emb g1 g2 x d c u t a b m o E) 0 0 K := by
  induction n with
  | zero =>
    intro l2 l4 h
    rw [F_Rd_inverse_L5] at h
    cases h
  | succ n ih =>
    intro l2 l4 h
    rw [F_Rd_inverse_L5] at h
    refine rn_iload (by exact dc_Rd_inverse 4 rfl) (by exact rfl) ?_
    refine rn_iconst (v := (5 : Int32)) (by exact dc_Rd_inverse 5 rfl) (by decide) ?_
    by_cases c1 : (5 : Int32) ≤ l4
    · replace h := rn_ifp c1 h
      refine rn_icmp_ge_t 27 (by exact dc_Rd_inverse 6 rfl) (by exact rfl) c1 ?_
      cases h
      exact rn_weak _ (by repeat (first | exact rn_le_0 | apply rn_le_s | apply rn_le_x)) hx
    · replace h := rn_ifn c1 h
      refine rn_icmp_ge_f 27 (by exact dc_Rd_inverse 6 rfl) (by exact rfl) c1 ?_
      refine rn_lload_n (by exact dc_Rd_inverse 7 rfl) (by exact rfl) ?_
      refine rn_ldc2 (v := (2 : Int64)) (by exact dc_Rd_inverse 8 rfl) kl_Rd_110 ?_
      refine rn_lload_n (by exact dc_Rd_inverse 9 rfl) (by exact rfl) ?_
      refine rn_lload_n (by exact dc_Rd_inverse 10 rfl) (by exact rfl) ?_
      refine rn_lmul (by exact dc_Rd_inverse 11 rfl) ?_
      refine rn_lsub (by exact dc_Rd_inverse 12 rfl) ?_
      refine rn_lmul (by exact dc_Rd_inverse 13 rfl) ?_
      refine rn_lstore_n (ls' := [some (.long l0), none, some (.long (l2 * ((2 : Int64) - (l0 * l2)))), none, some (.int l4)]) (by exact dc_Rd_inverse 14 rfl) (by decide) (by exact rfl) ?_
      refine rn_iinc (ls' := [some (.long l0), none, some (.long (l2 * ((2 : Int64) - (l0 * l2)))), none, some (.int (l4 + 1))]) (by exact dc_Rd_inverse 15 rfl) (by decide) (by exact rfl) (by exact rn_inc_1 _) (by exact rfl) ?_
      refine rn_goto 5 (by exact dc_Rd_inverse 16 rfl) (by exact rfl) ?_
      exact rn_weak _ (by repeat (first | exact rn_le_0 | apply rn_le_s | apply rn_le_x)) (ih _ _ h)
def F_Rd_inverse (v0 : Int64) : Option Int64 :=
  Option.bind (F_Rd_inverse_L5 v0 rn_fu v0 (0 : Int32)) fun y4 =>
  some y4
set_option maxHeartbeats 4000000 in
set_option maxRecDepth 100000 in
theorem c_Rd_inverse {Z : rn_Z} {g1 g2 : Nat} {x : tX} {d : tD} {c : tC} {u : tU} {t : tT} {a : tG} {b : tG} {m : tM} {o : tO} {E : List rn_C} {v0 : Int64} {res : Int64} (h : F_Rd_inverse  v0 = some res) : Call Z M_Rd_inverse [.long v0] (emb g1 g2 x d c u t a b m o E) 0 0 (some (.long res)) (emb g1 g2 x d c u t a b m o E) := by
  unfold F_Rd_inverse at h
  refine rn_call (by decide) 3 (by exact Nat.le_of_ble_eq_true rfl) ?_
  show Rn Z M_Rd_inverse 0 [some (.long v0), none, none, none, none] [] (emb g1 g2 x d c u t a b m o E) 0 0 _
  refine rn_lload_n (by exact dc_Rd_inverse 0 rfl) (by exact rfl) ?_
  refine rn_lstore_n (ls' := [some (.long v0), none, some (.long v0), none, none]) (by exact dc_Rd_inverse 1 rfl) (by decide) (by exact rfl) ?_
  refine rn_iconst (v := (0 : Int32)) (by exact dc_Rd_inverse 2 rfl) (by decide) ?_
  refine rn_istore (ls' := [some (.long v0), none, some (.long v0), none, some (.int (0 : Int32))]) (by exact dc_Rd_inverse 3 rfl) (by decide) (by exact rfl) ?_
  obtain ⟨y4, e1, h3⟩ := rn_bind h
  clear h
  have jx2 : Rn Z M_Rd_inverse 27 [none, none, some (.long y4), none, none] [] (emb g1 g2 x d c u t a b m o E) 0 0 (rn_Ret Z (some (.long res)) (emb g1 g2 x d c u t a b m o E)) := by
    refine rn_lload_n (by exact dc_Rd_inverse 17 rfl) (by exact rfl) ?_
    cases h3
    exact rn_lreturn (by exact dc_Rd_inverse 18 rfl) (by exact rfl)
  exact rn_weak _ (by repeat (first | exact rn_le_0 | apply rn_le_s | apply rn_le_x)) (p_Rd_inverse_L5 jx2 _ _ _ e1)
def F_Rd_readWeight (d : tD) (b : tG) (r : tR) (v0 : Int32) : Option (Int32 × tG × tR) :=
  Option.bind (F_Rd_readNumber d r ) fun (x2, r3) =>
  Option.bind (
    if x2 = (-1 : Int32) then (
      some ((1 : Int32), r3)
    ) else (
      Option.bind (F_Rd_skip d r3 (47 : Int32)) fun (x12, r13) =>
      if x12 = 0 then (
        some ((1 : Int32), r13)
      ) else (
        Option.bind (F_Rd_readNumber d r13 ) fun (x17, r18) =>
        some ((x17 : Int32), r18)
      )
    )
   : Option (Int32 × tR)) fun (y5, r6) =>
  if x2 = (-1 : Int32) then (
    some ((0 : Int32), b, r6)
  ) else (
    if y5 = (-1 : Int32) then (
      some ((0 : Int32), b, r6)
    ) else (
      if ¬ (y5 - y5 / (2 : Int32) * (2 : Int32)) = 0 then (
        Option.bind (F_Rd_inverse  (y5.toInt64)) fun x24 =>
        Option.bind (aS (G_weights b) 12 v0 ((x2.toInt64) * x24)) fun f26 =>
        some ((1 : Int32), (G_heads b, G_bodies b, G_bodyLengths b, f26, G_costs b, G_capitals b, G_order b, G_ruleCount b, G_nonterminalCount b, G_reached b), r6)
      ) else (
        some ((0 : Int32), b, r6)
      )
    )
  )
set_option maxHeartbeats 4000000 in
set_option maxRecDepth 100000 in
theorem c_Rd_readWeight {Z : rn_Z} {g1 g2 : Nat} {x : tX} {d : tD} {c : tC} {u : tU} {t : tT} {a : tG} {b : tG} {m : tM} {o : tO} {r : tR} {v0 : Int32} {res : Int32} {bR : tG} {rR : tR} (h : F_Rd_readWeight d b r v0 = some (res, bR, rR)) : Call Z M_Rd_readWeight [.ref 77, .int v0] (emb g1 g2 x d c u t a b m o [rd_cell r]) 0 0 (some (.int res)) (emb g1 g2 x d c u t a bR m o [rd_cell rR]) := by
  unfold F_Rd_readWeight at h
  refine rn_call (by decide) 2 (by exact Nat.le_of_ble_eq_true rfl) ?_
  show Rn Z M_Rd_readWeight 0 [some (.ref 77), some (.int v0), none, none] [] (emb g1 g2 x d c u t a b m o [rd_cell r]) 0 0 _
  refine rn_aload_n (by exact dc_Rd_readWeight 0 rfl) (by exact rfl) ?_
  obtain ⟨⟨x2, r3⟩, e1, h4⟩ := rn_bind h
  clear h
  dsimp only at h4
  refine rn_invV0 (by exact c_Rd_readNumber e1) iv_Rd_96 (by exact ⟨Nat.le_of_ble_eq_true rfl, Nat.le_of_ble_eq_true rfl⟩) (by exact dc_Rd_readWeight 1 rfl) (by exact rfl) (by exact rfl) (by exact rfl) (by exact Nat.le_of_ble_eq_true rfl) ?_
  show Rn _ _ 4 [some (.ref 77), some (.int v0), none, none] [.int x2] (emb g1 g2 x d c u t a b m o [rd_cell r3]) _ _ _
  refine rn_istore_n (ls' := [some (.ref 77), some (.int v0), some (.int x2), none]) (by exact dc_Rd_readWeight 2 rfl) (by decide) (by exact rfl) ?_
  refine rn_iconst (v := (1 : Int32)) (by exact dc_Rd_readWeight 3 rfl) (by decide) ?_
  refine rn_istore_n (ls' := [some (.ref 77), some (.int v0), some (.int x2), some (.int (1 : Int32))]) (by exact dc_Rd_readWeight 4 rfl) (by decide) (by exact rfl) ?_
  refine rn_iload_n (by exact dc_Rd_readWeight 5 rfl) (by exact rfl) ?_
  refine rn_iconst (v := (-1 : Int32)) (by exact dc_Rd_readWeight 6 rfl) (by decide) ?_
  obtain ⟨⟨y5, r6⟩, e7, h9⟩ := rn_bind h4
  clear h4
  dsimp only at h9
  have jq8 : Rn Z M_Rd_readWeight 26 [some (.ref 77), some (.int v0), some (.int x2), some (.int y5)] [] (emb g1 g2 x d c u t a b m o [rd_cell r6]) 0 0 (rn_Ret Z (some (.int res)) (emb g1 g2 x d c u t a bR m o [rd_cell rR])) := by
    refine rn_iload_n (by exact dc_Rd_readWeight 15 rfl) (by exact rfl) ?_
    refine rn_iconst (v := (-1 : Int32)) (by exact dc_Rd_readWeight 16 rfl) (by decide) ?_
    by_cases c20 : x2 = (-1 : Int32)
    · replace h9 := rn_ifp c20 h9
      refine rn_icmp_eq_t 42 (by exact dc_Rd_readWeight 17 rfl) (by exact rfl) c20 ?_
      refine rn_iconst (v := (0 : Int32)) (by exact dc_Rd_readWeight 25 rfl) (by decide) ?_
      cases h9
      exact rn_zreturn (by exact dc_Rd_readWeight 26 rfl) (by exact rfl) (by first | exact Or.inl rfl | exact Or.inr rfl)
    · replace h9 := rn_ifn c20 h9
      refine rn_icmp_eq_f 42 (by exact dc_Rd_readWeight 17 rfl) (by exact rfl) c20 ?_
      refine rn_iload_n (by exact dc_Rd_readWeight 18 rfl) (by exact rfl) ?_
      refine rn_iconst (v := (-1 : Int32)) (by exact dc_Rd_readWeight 19 rfl) (by decide) ?_
      by_cases c21 : y5 = (-1 : Int32)
      · replace h9 := rn_ifp c21 h9
        refine rn_icmp_eq_t 42 (by exact dc_Rd_readWeight 20 rfl) (by exact rfl) c21 ?_
        refine rn_iconst (v := (0 : Int32)) (by exact dc_Rd_readWeight 25 rfl) (by decide) ?_
        cases h9
        exact rn_zreturn (by exact dc_Rd_readWeight 26 rfl) (by exact rfl) (by first | exact Or.inl rfl | exact Or.inr rfl)
      · replace h9 := rn_ifn c21 h9
        refine rn_icmp_eq_f 42 (by exact dc_Rd_readWeight 20 rfl) (by exact rfl) c21 ?_
        refine rn_iload_n (by exact dc_Rd_readWeight 21 rfl) (by exact rfl) ?_
        refine rn_iconst (v := (2 : Int32)) (by exact dc_Rd_readWeight 22 rfl) (by decide) ?_
        refine rn_irem (by exact dc_Rd_readWeight 23 rfl) (by decide) ?_
        by_cases c22 : ¬ (y5 - y5 / (2 : Int32) * (2 : Int32)) = 0
        · replace h9 := rn_ifp c22 h9
          refine rn_if_ne_t 44 (by exact dc_Rd_readWeight 24 rfl) (by exact rfl) c22 ?_
          refine rn_aload_n (by exact dc_Rd_readWeight 27 rfl) (by exact rfl) ?_
          refine rn_getf (v := .ref 44) fd_Rd_15 (by exact dc_Rd_readWeight 28 rfl) (by exact rfl) (by exact rfl) ?_
          refine rn_getf (v := .ref 48) fd_Rd_99 (by exact dc_Rd_readWeight 29 rfl) (by exact rfl) (by exact rfl) ?_
          refine rn_iload_n (by exact dc_Rd_readWeight 30 rfl) (by exact rfl) ?_
          refine rn_iload_n (by exact dc_Rd_readWeight 31 rfl) (by exact rfl) ?_
          refine rn_i2l (by exact dc_Rd_readWeight 32 rfl) ?_
          refine rn_iload_n (by exact dc_Rd_readWeight 33 rfl) (by exact rfl) ?_
          refine rn_i2l (by exact dc_Rd_readWeight 34 rfl) ?_
          obtain ⟨x24, e23, h25⟩ := rn_bind h9
          clear h9
          refine rn_invS0 (by exact c_Rd_inverse e23) is_Rd_103 (by exact ⟨Nat.le_of_ble_eq_true rfl, Nat.le_of_ble_eq_true rfl⟩) (by exact dc_Rd_readWeight 35 rfl) (by exact rfl) (by exact rfl) (by exact Nat.le_of_ble_eq_true rfl) ?_
          show Rn _ _ 59 [some (.ref 77), some (.int v0), some (.int x2), some (.int y5)] [.long x24, .long (x2.toInt64), .int v0, .ref 48] (emb g1 g2 x d c u t a b m o [rd_cell r6]) _ _ _
          refine rn_lmul (by exact dc_Rd_readWeight 36 rfl) ?_
          obtain ⟨f26, e27, h28⟩ := rn_bind h25
          clear h25
          refine rn_lastore (w2 := (emb g1 g2 x d c u t a (G_heads b, G_bodies b, G_bodyLengths b, f26, G_costs b, G_capitals b, G_order b, G_ruleCount b, G_nonterminalCount b, G_reached b) m o [rd_cell r6])) (by exact dc_Rd_readWeight 37 rfl) (by exact rfl) e27 (by exact rfl) ?_
          refine rn_iconst (v := (1 : Int32)) (by exact dc_Rd_readWeight 38 rfl) (by decide) ?_
          cases h28
          exact rn_zreturn (by exact dc_Rd_readWeight 39 rfl) (by exact rfl) (by first | exact Or.inl rfl | exact Or.inr rfl)
        · replace h9 := rn_ifn c22 h9
          refine rn_if_ne_f 44 (by exact dc_Rd_readWeight 24 rfl) (by exact rfl) (Classical.not_not.mp c22) ?_
          refine rn_iconst (v := (0 : Int32)) (by exact dc_Rd_readWeight 25 rfl) (by decide) ?_
          cases h9
          exact rn_zreturn (by exact dc_Rd_readWeight 26 rfl) (by exact rfl) (by first | exact Or.inl rfl | exact Or.inr rfl)
  by_cases c10 : x2 = (-1 : Int32)
  · replace e7 := rn_ifp c10 e7
    refine rn_icmp_eq_t 26 (by exact dc_Rd_readWeight 7 rfl) (by exact rfl) c10 ?_
    cases e7
    exact rn_weak _ (by repeat (first | exact rn_le_0 | apply rn_le_s | apply rn_le_x)) jq8
  · replace e7 := rn_ifn c10 e7
    refine rn_icmp_eq_f 26 (by exact dc_Rd_readWeight 7 rfl) (by exact rfl) c10 ?_
    refine rn_aload_n (by exact dc_Rd_readWeight 8 rfl) (by exact rfl) ?_
    refine rn_bipush (v := (47 : Int32)) (by exact dc_Rd_readWeight 9 rfl) (by decide) ?_
    obtain ⟨⟨x12, r13⟩, e11, h14⟩ := rn_bind e7
    clear e7
    dsimp only at h14
    refine rn_invV0 (by exact c_Rd_skip e11) iv_Rd_59 (by exact ⟨Nat.le_of_ble_eq_true rfl, Nat.le_of_ble_eq_true rfl⟩) (by exact dc_Rd_readWeight 10 rfl) (by exact rfl) (by exact rfl) (by exact rfl) (by exact Nat.le_of_ble_eq_true rfl) ?_
    show Rn _ _ 18 [some (.ref 77), some (.int v0), some (.int x2), some (.int (1 : Int32))] [.int x12] (emb g1 g2 x d c u t a b m o [rd_cell r13]) _ _ _
    by_cases c15 : x12 = 0
    · replace h14 := rn_ifp c15 h14
      refine rn_if_eq_t 26 (by exact dc_Rd_readWeight 11 rfl) (by exact rfl) c15 ?_
      cases h14
      exact rn_weak _ (by repeat (first | exact rn_le_0 | apply rn_le_s | apply rn_le_x)) jq8
    · replace h14 := rn_ifn c15 h14
      refine rn_if_eq_f 26 (by exact dc_Rd_readWeight 11 rfl) (by exact rfl) c15 ?_
      refine rn_aload_n (by exact dc_Rd_readWeight 12 rfl) (by exact rfl) ?_
      obtain ⟨⟨x17, r18⟩, e16, h19⟩ := rn_bind h14
      clear h14
      dsimp only at h19
      refine rn_invV0 (by exact c_Rd_readNumber e16) iv_Rd_96 (by exact ⟨Nat.le_of_ble_eq_true rfl, Nat.le_of_ble_eq_true rfl⟩) (by exact dc_Rd_readWeight 13 rfl) (by exact rfl) (by exact rfl) (by exact rfl) (by exact Nat.le_of_ble_eq_true rfl) ?_
      show Rn _ _ 25 [some (.ref 77), some (.int v0), some (.int x2), some (.int (1 : Int32))] [.int x17] (emb g1 g2 x d c u t a b m o [rd_cell r18]) _ _ _
      refine rn_istore_n (ls' := [some (.ref 77), some (.int v0), some (.int x2), some (.int x17)]) (by exact dc_Rd_readWeight 14 rfl) (by decide) (by exact rfl) ?_
      cases h19
      exact rn_weak _ (by repeat (first | exact rn_le_0 | apply rn_le_s | apply rn_le_x)) jq8
end
section
def F_Rd_readCost (d : tD) (b : tG) (r : tR) (v0 : Int32) : Option (Int32 × tG × tR) :=
  Option.bind (F_Rd_readNumber d r ) fun (x2, r3) =>
  Option.bind (aS (G_costs b) 12 v0 x2) fun f5 =>
  Option.bind (
    if x2 = (-1 : Int32) then (
      some (0 : Int32)
    ) else (
      if (99 : Int32) < x2 then (
        some (0 : Int32)
      ) else (
        some (1 : Int32)
      )
    )
   : Option Int32) fun y8 =>
  Option.bind (rn_bl y8) fun y14 =>
  some (y14, (G_heads b, G_bodies b, G_bodyLengths b, G_weights b, f5, G_capitals b, G_order b, G_ruleCount b, G_nonterminalCount b, G_reached b), r3)
set_option maxHeartbeats 4000000 in
set_option maxRecDepth 100000 in
theorem c_Rd_readCost {Z : rn_Z} {g1 g2 : Nat} {x : tX} {d : tD} {c : tC} {u : tU} {t : tT} {a : tG} {b : tG} {m : tM} {o : tO} {r : tR} {v0 : Int32} {res : Int32} {bR : tG} {rR : tR} (h : F_Rd_readCost d b r v0 = some (res, bR, rR)) : Call Z M_Rd_readCost [.ref 77, .int v0] (emb g1 g2 x d c u t a b m o [rd_cell r]) 0 0 (some (.int res)) (emb g1 g2 x d c u t a bR m o [rd_cell rR]) := by
  unfold F_Rd_readCost at h
  refine rn_call (by decide) 1 (by exact Nat.le_of_ble_eq_true rfl) ?_
  show Rn Z M_Rd_readCost 0 [some (.ref 77), some (.int v0), none] [] (emb g1 g2 x d c u t a b m o [rd_cell r]) 0 0 _
  refine rn_aload_n (by exact dc_Rd_readCost 0 rfl) (by exact rfl) ?_
  obtain ⟨⟨x2, r3⟩, e1, h4⟩ := rn_bind h
  clear h
  dsimp only at h4
  refine rn_invV0 (by exact c_Rd_readNumber e1) iv_Rd_96 (by exact ⟨Nat.le_of_ble_eq_true rfl, Nat.le_of_ble_eq_true rfl⟩) (by exact dc_Rd_readCost 1 rfl) (by exact rfl) (by exact rfl) (by exact rfl) (by exact Nat.le_of_ble_eq_true rfl) ?_
  show Rn _ _ 4 [some (.ref 77), some (.int v0), none] [.int x2] (emb g1 g2 x d c u t a b m o [rd_cell r3]) _ _ _
  refine rn_istore_n (ls' := [some (.ref 77), some (.int v0), some (.int x2)]) (by exact dc_Rd_readCost 2 rfl) (by decide) (by exact rfl) ?_
  refine rn_aload_n (by exact dc_Rd_readCost 3 rfl) (by exact rfl) ?_
  refine rn_getf (v := .ref 44) fd_Rd_15 (by exact dc_Rd_readCost 4 rfl) (by exact rfl) (by exact rfl) ?_
  refine rn_getf (v := .ref 49) fd_Rd_107 (by exact dc_Rd_readCost 5 rfl) (by exact rfl) (by exact rfl) ?_
  refine rn_iload_n (by exact dc_Rd_readCost 6 rfl) (by exact rfl) ?_
  refine rn_iload_n (by exact dc_Rd_readCost 7 rfl) (by exact rfl) ?_
  obtain ⟨f5, e6, h7⟩ := rn_bind h4
  clear h4
  refine rn_iastore (w2 := (emb g1 g2 x d c u t a (G_heads b, G_bodies b, G_bodyLengths b, G_weights b, f5, G_capitals b, G_order b, G_ruleCount b, G_nonterminalCount b, G_reached b) m o [rd_cell r3])) (by exact dc_Rd_readCost 8 rfl) (by exact rfl) e6 (by exact rfl) ?_
  refine rn_iload_n (by exact dc_Rd_readCost 9 rfl) (by exact rfl) ?_
  refine rn_iconst (v := (-1 : Int32)) (by exact dc_Rd_readCost 10 rfl) (by decide) ?_
  obtain ⟨y8, e9, h11⟩ := rn_bind h7
  clear h7
  have jq10 : Rn Z M_Rd_readCost 31 [none, none, none] [.int y8] (emb g1 g2 x d c u t a (G_heads b, G_bodies b, G_bodyLengths b, G_weights b, f5, G_capitals b, G_order b, G_ruleCount b, G_nonterminalCount b, G_reached b) m o [rd_cell r3]) 0 0 (rn_Ret Z (some (.int res)) (emb g1 g2 x d c u t a bR m o [rd_cell rR])) := by
    obtain ⟨y14, e15, h17⟩ := rn_bind h11
    clear h11
    obtain ⟨rfl, hb16⟩ := rn_bl_some e15
    cases h17
    exact rn_zreturn (by exact dc_Rd_readCost 18 rfl) (by exact rfl) hb16
  by_cases c12 : x2 = (-1 : Int32)
  · replace e9 := rn_ifp c12 e9
    refine rn_icmp_eq_t 30 (by exact dc_Rd_readCost 11 rfl) (by exact rfl) c12 ?_
    refine rn_iconst (v := (0 : Int32)) (by exact dc_Rd_readCost 17 rfl) (by decide) ?_
    cases e9
    exact rn_weak _ (by repeat (first | exact rn_le_0 | apply rn_le_s | apply rn_le_x)) jq10
  · replace e9 := rn_ifn c12 e9
    refine rn_icmp_eq_f 30 (by exact dc_Rd_readCost 11 rfl) (by exact rfl) c12 ?_
    refine rn_iload_n (by exact dc_Rd_readCost 12 rfl) (by exact rfl) ?_
    refine rn_bipush (v := (99 : Int32)) (by exact dc_Rd_readCost 13 rfl) (by decide) ?_
    by_cases c13 : (99 : Int32) < x2
    · replace e9 := rn_ifp c13 e9
      refine rn_icmp_gt_t 30 (by exact dc_Rd_readCost 14 rfl) (by exact rfl) c13 ?_
      refine rn_iconst (v := (0 : Int32)) (by exact dc_Rd_readCost 17 rfl) (by decide) ?_
      cases e9
      exact rn_weak _ (by repeat (first | exact rn_le_0 | apply rn_le_s | apply rn_le_x)) jq10
    · replace e9 := rn_ifn c13 e9
      refine rn_icmp_gt_f 30 (by exact dc_Rd_readCost 14 rfl) (by exact rfl) c13 ?_
      refine rn_iconst (v := (1 : Int32)) (by exact dc_Rd_readCost 15 rfl) (by decide) ?_
      refine rn_goto 31 (by exact dc_Rd_readCost 16 rfl) (by exact rfl) ?_
      cases e9
      exact rn_weak _ (by repeat (first | exact rn_le_0 | apply rn_le_s | apply rn_le_x)) jq10
def F_Rd_readRule (d : tD) (b : tG) (r : tR)  : Option (Int32 × tG × tR) :=
  if ¬ (G_ruleCount b) = (12 : Int32) then (
    Option.bind (F_Rd_readHead d b r (G_ruleCount b)) fun (x3, b4, r5) =>
    Option.bind (
      if x3 = 0 then (
        some ((0 : Int32), b4, r5)
      ) else (
        Option.bind (F_Rd_skip d r5 (61 : Int32)) fun (x15, r16) =>
        if x15 = 0 then (
          some ((0 : Int32), b4, r16)
        ) else (
          Option.bind (F_Rd_readBody d b4 r16 (G_ruleCount b)) fun (x20, b21, r22) =>
          if x20 = 0 then (
            some ((0 : Int32), b21, r22)
          ) else (
            Option.bind (F_Rd_skip d r22 (32 : Int32)) fun (x26, r27) =>
            if x26 = 0 then (
              some ((0 : Int32), b21, r27)
            ) else (
              Option.bind (F_Rd_readWeight d b21 r27 (G_ruleCount b)) fun (x31, b32, r33) =>
              if x31 = 0 then (
                some ((0 : Int32), b32, r33)
              ) else (
                Option.bind (F_Rd_skip d r33 (32 : Int32)) fun (x37, r38) =>
                if x37 = 0 then (
                  some ((0 : Int32), b32, r38)
                ) else (
                  Option.bind (F_Rd_readCost d b32 r38 (G_ruleCount b)) fun (x42, b43, r44) =>
                  if x42 = 0 then (
                    some ((0 : Int32), b43, r44)
                  ) else (
                    if ¬ (R_at r44) = (R_end r44) then (
                      some ((0 : Int32), b43, r44)
                    ) else (
                      some ((1 : Int32), b43, r44)
                    )
                  )
                )
              )
            )
          )
        )
      )
     : Option (Int32 × tG × tR)) fun (y7, b8, r9) =>
    Option.bind (
      if y7 = 0 then (
        some b8
      ) else (
        some (G_heads b8, G_bodies b8, G_bodyLengths b8, G_weights b8, G_costs b8, G_capitals b8, G_order b8, (G_ruleCount b8) + (1 : Int32), G_nonterminalCount b8, G_reached b8)
      )
     : Option tG) fun b48 =>
    Option.bind (rn_bl y7) fun y53 =>
    some (y53, b48, r9)
  ) else (
    some ((0 : Int32), b, r)
  )
set_option maxHeartbeats 4000000 in
set_option maxRecDepth 100000 in
theorem c_Rd_readRule {Z : rn_Z} {g1 g2 : Nat} {x : tX} {d : tD} {c : tC} {u : tU} {t : tT} {a : tG} {b : tG} {m : tM} {o : tO} {r : tR}  {res : Int32} {bR : tG} {rR : tR} (h : F_Rd_readRule d b r  = some (res, bR, rR)) : Call Z M_Rd_readRule [.ref 77] (emb g1 g2 x d c u t a b m o [rd_cell r]) 0 0 (some (.int res)) (emb g1 g2 x d c u t a bR m o [rd_cell rR]) := by
  unfold F_Rd_readRule at h
  refine rn_call (by decide) 2 (by exact Nat.le_of_ble_eq_true rfl) ?_
  show Rn Z M_Rd_readRule 0 [some (.ref 77), none, none] [] (emb g1 g2 x d c u t a b m o [rd_cell r]) 0 0 _
  refine rn_aload_n (by exact dc_Rd_readRule 0 rfl) (by exact rfl) ?_
  refine rn_getf (v := .ref 44) fd_Rd_15 (by exact dc_Rd_readRule 1 rfl) (by exact rfl) (by exact rfl) ?_
  refine rn_getf (v := .int (G_ruleCount b)) fd_Rd_48 (by exact dc_Rd_readRule 2 rfl) (by exact rfl) (by exact rfl) ?_
  refine rn_bipush (v := (12 : Int32)) (by exact dc_Rd_readRule 3 rfl) (by decide) ?_
  by_cases c1 : ¬ (G_ruleCount b) = (12 : Int32)
  · replace h := rn_ifp c1 h
    refine rn_icmp_ne_t 14 (by exact dc_Rd_readRule 4 rfl) (by exact rfl) c1 ?_
    refine rn_aload_n (by exact dc_Rd_readRule 7 rfl) (by exact rfl) ?_
    refine rn_getf (v := .ref 44) fd_Rd_15 (by exact dc_Rd_readRule 8 rfl) (by exact rfl) (by exact rfl) ?_
    refine rn_getf (v := .int (G_ruleCount b)) fd_Rd_48 (by exact dc_Rd_readRule 9 rfl) (by exact rfl) (by exact rfl) ?_
    refine rn_istore_n (ls' := [some (.ref 77), some (.int (G_ruleCount b)), none]) (by exact dc_Rd_readRule 10 rfl) (by decide) (by exact rfl) ?_
    refine rn_aload_n (by exact dc_Rd_readRule 11 rfl) (by exact rfl) ?_
    refine rn_iload_n (by exact dc_Rd_readRule 12 rfl) (by exact rfl) ?_
    obtain ⟨⟨x3, b4, r5⟩, e2, h6⟩ := rn_bind h
    clear h
    dsimp only at h6
    refine rn_invV0 (by exact c_Rd_readHead e2) iv_Rd_55 (by exact ⟨Nat.le_of_ble_eq_true rfl, Nat.le_of_ble_eq_true rfl⟩) (by exact dc_Rd_readRule 13 rfl) (by exact rfl) (by exact rfl) (by exact rfl) (by exact Nat.le_of_ble_eq_true rfl) ?_
    show Rn _ _ 27 [some (.ref 77), some (.int (G_ruleCount b)), none] [.int x3] (emb g1 g2 x d c u t a b4 m o [rd_cell r5]) _ _ _
    obtain ⟨⟨y7, b8, r9⟩, e10, h12⟩ := rn_bind h6
    clear h6
    dsimp only at h12
    have jq11 : Rn Z M_Rd_readRule 97 [some (.ref 77), none, none] [.int y7] (emb g1 g2 x d c u t a b8 m o [rd_cell r9]) 0 0 (rn_Ret Z (some (.int res)) (emb g1 g2 x d c u t a bR m o [rd_cell rR])) := by
      refine rn_istore_n (ls' := [some (.ref 77), none, some (.int y7)]) (by exact dc_Rd_readRule 47 rfl) (by decide) (by exact rfl) ?_
      refine rn_iload_n (by exact dc_Rd_readRule 48 rfl) (by exact rfl) ?_
      obtain ⟨b48, e49, h51⟩ := rn_bind h12
      clear h12
      have jq50 : Rn Z M_Rd_readRule 115 [none, none, some (.int y7)] [] (emb g1 g2 x d c u t a b48 m o [rd_cell r9]) 0 0 (rn_Ret Z (some (.int res)) (emb g1 g2 x d c u t a bR m o [rd_cell rR])) := by
        refine rn_iload_n (by exact dc_Rd_readRule 57 rfl) (by exact rfl) ?_
        obtain ⟨y53, e54, h56⟩ := rn_bind h51
        clear h51
        obtain ⟨rfl, hb55⟩ := rn_bl_some e54
        cases h56
        exact rn_zreturn (by exact dc_Rd_readRule 58 rfl) (by exact rfl) hb55
      by_cases c52 : y7 = 0
      · replace e49 := rn_ifp c52 e49
        refine rn_if_eq_t 115 (by exact dc_Rd_readRule 49 rfl) (by exact rfl) c52 ?_
        cases e49
        exact rn_weak _ (by repeat (first | exact rn_le_0 | apply rn_le_s | apply rn_le_x)) jq50
      · replace e49 := rn_ifn c52 e49
        refine rn_if_eq_f 115 (by exact dc_Rd_readRule 49 rfl) (by exact rfl) c52 ?_
        refine rn_aload_n (by exact dc_Rd_readRule 50 rfl) (by exact rfl) ?_
        refine rn_getf (v := .ref 44) fd_Rd_15 (by exact dc_Rd_readRule 51 rfl) (by exact rfl) (by exact rfl) ?_
        refine rn_dup (by exact dc_Rd_readRule 52 rfl) (by exact rfl) ?_
        refine rn_getf (v := .int (G_ruleCount b8)) fd_Rd_48 (by exact dc_Rd_readRule 53 rfl) (by exact rfl) (by exact rfl) ?_
        refine rn_iconst (v := (1 : Int32)) (by exact dc_Rd_readRule 54 rfl) (by decide) ?_
        refine rn_iadd (by exact dc_Rd_readRule 55 rfl) ?_
        refine rn_putf (w2 := (emb g1 g2 x d c u t a (G_heads b8, G_bodies b8, G_bodyLengths b8, G_weights b8, G_costs b8, G_capitals b8, G_order b8, (G_ruleCount b8) + (1 : Int32), G_nonterminalCount b8, G_reached b8) m o [rd_cell r9])) fd_Rd_48 (by exact dc_Rd_readRule 56 rfl) (by exact rfl) (by exact rfl) (by exact Nat.le_of_ble_eq_true rfl) (by exact rfl) ?_
        cases e49
        exact rn_weak _ (by repeat (first | exact rn_le_0 | apply rn_le_s | apply rn_le_x)) jq50
    by_cases c13 : x3 = 0
    · replace e10 := rn_ifp c13 e10
      refine rn_if_eq_t 96 (by exact dc_Rd_readRule 14 rfl) (by exact rfl) c13 ?_
      refine rn_iconst (v := (0 : Int32)) (by exact dc_Rd_readRule 46 rfl) (by decide) ?_
      cases e10
      exact rn_weak _ (by repeat (first | exact rn_le_0 | apply rn_le_s | apply rn_le_x)) jq11
    · replace e10 := rn_ifn c13 e10
      refine rn_if_eq_f 96 (by exact dc_Rd_readRule 14 rfl) (by exact rfl) c13 ?_
      refine rn_aload_n (by exact dc_Rd_readRule 15 rfl) (by exact rfl) ?_
      refine rn_bipush (v := (61 : Int32)) (by exact dc_Rd_readRule 16 rfl) (by decide) ?_
      obtain ⟨⟨x15, r16⟩, e14, h17⟩ := rn_bind e10
      clear e10
      dsimp only at h17
      refine rn_invV0 (by exact c_Rd_skip e14) iv_Rd_59 (by exact ⟨Nat.le_of_ble_eq_true rfl, Nat.le_of_ble_eq_true rfl⟩) (by exact dc_Rd_readRule 17 rfl) (by exact rfl) (by exact rfl) (by exact rfl) (by exact Nat.le_of_ble_eq_true rfl) ?_
      show Rn _ _ 36 [some (.ref 77), some (.int (G_ruleCount b)), none] [.int x15] (emb g1 g2 x d c u t a b4 m o [rd_cell r16]) _ _ _
      by_cases c18 : x15 = 0
      · replace h17 := rn_ifp c18 h17
        refine rn_if_eq_t 96 (by exact dc_Rd_readRule 18 rfl) (by exact rfl) c18 ?_
        refine rn_iconst (v := (0 : Int32)) (by exact dc_Rd_readRule 46 rfl) (by decide) ?_
        cases h17
        exact rn_weak _ (by repeat (first | exact rn_le_0 | apply rn_le_s | apply rn_le_x)) jq11
      · replace h17 := rn_ifn c18 h17
        refine rn_if_eq_f 96 (by exact dc_Rd_readRule 18 rfl) (by exact rfl) c18 ?_
        refine rn_aload_n (by exact dc_Rd_readRule 19 rfl) (by exact rfl) ?_
        refine rn_iload_n (by exact dc_Rd_readRule 20 rfl) (by exact rfl) ?_
        obtain ⟨⟨x20, b21, r22⟩, e19, h23⟩ := rn_bind h17
        clear h17
        dsimp only at h23
        refine rn_invV0 (by exact c_Rd_readBody e19) iv_Rd_62 (by exact ⟨Nat.le_of_ble_eq_true rfl, Nat.le_of_ble_eq_true rfl⟩) (by exact dc_Rd_readRule 21 rfl) (by exact rfl) (by exact rfl) (by exact rfl) (by exact Nat.le_of_ble_eq_true rfl) ?_
        show Rn _ _ 44 [some (.ref 77), some (.int (G_ruleCount b)), none] [.int x20] (emb g1 g2 x d c u t a b21 m o [rd_cell r22]) _ _ _
        by_cases c24 : x20 = 0
        · replace h23 := rn_ifp c24 h23
          refine rn_if_eq_t 96 (by exact dc_Rd_readRule 22 rfl) (by exact rfl) c24 ?_
          refine rn_iconst (v := (0 : Int32)) (by exact dc_Rd_readRule 46 rfl) (by decide) ?_
          cases h23
          exact rn_weak _ (by repeat (first | exact rn_le_0 | apply rn_le_s | apply rn_le_x)) jq11
        · replace h23 := rn_ifn c24 h23
          refine rn_if_eq_f 96 (by exact dc_Rd_readRule 22 rfl) (by exact rfl) c24 ?_
          refine rn_aload_n (by exact dc_Rd_readRule 23 rfl) (by exact rfl) ?_
          refine rn_bipush (v := (32 : Int32)) (by exact dc_Rd_readRule 24 rfl) (by decide) ?_
          obtain ⟨⟨x26, r27⟩, e25, h28⟩ := rn_bind h23
          clear h23
          dsimp only at h28
          refine rn_invV0 (by exact c_Rd_skip e25) iv_Rd_59 (by exact ⟨Nat.le_of_ble_eq_true rfl, Nat.le_of_ble_eq_true rfl⟩) (by exact dc_Rd_readRule 25 rfl) (by exact rfl) (by exact rfl) (by exact rfl) (by exact Nat.le_of_ble_eq_true rfl) ?_
          show Rn _ _ 53 [some (.ref 77), some (.int (G_ruleCount b)), none] [.int x26] (emb g1 g2 x d c u t a b21 m o [rd_cell r27]) _ _ _
          by_cases c29 : x26 = 0
          · replace h28 := rn_ifp c29 h28
            refine rn_if_eq_t 96 (by exact dc_Rd_readRule 26 rfl) (by exact rfl) c29 ?_
            refine rn_iconst (v := (0 : Int32)) (by exact dc_Rd_readRule 46 rfl) (by decide) ?_
            cases h28
            exact rn_weak _ (by repeat (first | exact rn_le_0 | apply rn_le_s | apply rn_le_x)) jq11
          · replace h28 := rn_ifn c29 h28
            refine rn_if_eq_f 96 (by exact dc_Rd_readRule 26 rfl) (by exact rfl) c29 ?_
            refine rn_aload_n (by exact dc_Rd_readRule 27 rfl) (by exact rfl) ?_
            refine rn_iload_n (by exact dc_Rd_readRule 28 rfl) (by exact rfl) ?_
            obtain ⟨⟨x31, b32, r33⟩, e30, h34⟩ := rn_bind h28
            clear h28
            dsimp only at h34
            refine rn_invV0 (by exact c_Rd_readWeight e30) iv_Rd_65 (by exact ⟨Nat.le_of_ble_eq_true rfl, Nat.le_of_ble_eq_true rfl⟩) (by exact dc_Rd_readRule 29 rfl) (by exact rfl) (by exact rfl) (by exact rfl) (by exact Nat.le_of_ble_eq_true rfl) ?_
            show Rn _ _ 61 [some (.ref 77), some (.int (G_ruleCount b)), none] [.int x31] (emb g1 g2 x d c u t a b32 m o [rd_cell r33]) _ _ _
            by_cases c35 : x31 = 0
            · replace h34 := rn_ifp c35 h34
              refine rn_if_eq_t 96 (by exact dc_Rd_readRule 30 rfl) (by exact rfl) c35 ?_
              refine rn_iconst (v := (0 : Int32)) (by exact dc_Rd_readRule 46 rfl) (by decide) ?_
              cases h34
              exact rn_weak _ (by repeat (first | exact rn_le_0 | apply rn_le_s | apply rn_le_x)) jq11
            · replace h34 := rn_ifn c35 h34
              refine rn_if_eq_f 96 (by exact dc_Rd_readRule 30 rfl) (by exact rfl) c35 ?_
              refine rn_aload_n (by exact dc_Rd_readRule 31 rfl) (by exact rfl) ?_
              refine rn_bipush (v := (32 : Int32)) (by exact dc_Rd_readRule 32 rfl) (by decide) ?_
              obtain ⟨⟨x37, r38⟩, e36, h39⟩ := rn_bind h34
              clear h34
              dsimp only at h39
              refine rn_invV0 (by exact c_Rd_skip e36) iv_Rd_59 (by exact ⟨Nat.le_of_ble_eq_true rfl, Nat.le_of_ble_eq_true rfl⟩) (by exact dc_Rd_readRule 33 rfl) (by exact rfl) (by exact rfl) (by exact rfl) (by exact Nat.le_of_ble_eq_true rfl) ?_
              show Rn _ _ 70 [some (.ref 77), some (.int (G_ruleCount b)), none] [.int x37] (emb g1 g2 x d c u t a b32 m o [rd_cell r38]) _ _ _
              by_cases c40 : x37 = 0
              · replace h39 := rn_ifp c40 h39
                refine rn_if_eq_t 96 (by exact dc_Rd_readRule 34 rfl) (by exact rfl) c40 ?_
                refine rn_iconst (v := (0 : Int32)) (by exact dc_Rd_readRule 46 rfl) (by decide) ?_
                cases h39
                exact rn_weak _ (by repeat (first | exact rn_le_0 | apply rn_le_s | apply rn_le_x)) jq11
              · replace h39 := rn_ifn c40 h39
                refine rn_if_eq_f 96 (by exact dc_Rd_readRule 34 rfl) (by exact rfl) c40 ?_
                refine rn_aload_n (by exact dc_Rd_readRule 35 rfl) (by exact rfl) ?_
                refine rn_iload_n (by exact dc_Rd_readRule 36 rfl) (by exact rfl) ?_
                obtain ⟨⟨x42, b43, r44⟩, e41, h45⟩ := rn_bind h39
                clear h39
                dsimp only at h45
                refine rn_invV0 (by exact c_Rd_readCost e41) iv_Rd_68 (by exact ⟨Nat.le_of_ble_eq_true rfl, Nat.le_of_ble_eq_true rfl⟩) (by exact dc_Rd_readRule 37 rfl) (by exact rfl) (by exact rfl) (by exact rfl) (by exact Nat.le_of_ble_eq_true rfl) ?_
                show Rn _ _ 78 [some (.ref 77), some (.int (G_ruleCount b)), none] [.int x42] (emb g1 g2 x d c u t a b43 m o [rd_cell r44]) _ _ _
                by_cases c46 : x42 = 0
                · replace h45 := rn_ifp c46 h45
                  refine rn_if_eq_t 96 (by exact dc_Rd_readRule 38 rfl) (by exact rfl) c46 ?_
                  refine rn_iconst (v := (0 : Int32)) (by exact dc_Rd_readRule 46 rfl) (by decide) ?_
                  cases h45
                  exact rn_weak _ (by repeat (first | exact rn_le_0 | apply rn_le_s | apply rn_le_x)) jq11
                · replace h45 := rn_ifn c46 h45
                  refine rn_if_eq_f 96 (by exact dc_Rd_readRule 38 rfl) (by exact rfl) c46 ?_
                  refine rn_aload_n (by exact dc_Rd_readRule 39 rfl) (by exact rfl) ?_
                  refine rn_getf (v := .int (R_at r44)) fd_Rd_19 (by exact dc_Rd_readRule 40 rfl) (by exact rfl) (by exact rfl) ?_
                  refine rn_aload_n (by exact dc_Rd_readRule 41 rfl) (by exact rfl) ?_
                  refine rn_getf (v := .int (R_end r44)) fd_Rd_23 (by exact dc_Rd_readRule 42 rfl) (by exact rfl) (by exact rfl) ?_
                  by_cases c47 : ¬ (R_at r44) = (R_end r44)
                  · replace h45 := rn_ifp c47 h45
                    refine rn_icmp_ne_t 96 (by exact dc_Rd_readRule 43 rfl) (by exact rfl) c47 ?_
                    refine rn_iconst (v := (0 : Int32)) (by exact dc_Rd_readRule 46 rfl) (by decide) ?_
                    cases h45
                    exact rn_weak _ (by repeat (first | exact rn_le_0 | apply rn_le_s | apply rn_le_x)) jq11
                  · replace h45 := rn_ifn c47 h45
                    refine rn_icmp_ne_f 96 (by exact dc_Rd_readRule 43 rfl) (by exact rfl) (Classical.not_not.mp c47) ?_
                    refine rn_iconst (v := (1 : Int32)) (by exact dc_Rd_readRule 44 rfl) (by decide) ?_
                    refine rn_goto 97 (by exact dc_Rd_readRule 45 rfl) (by exact rfl) ?_
                    cases h45
                    exact rn_weak _ (by repeat (first | exact rn_le_0 | apply rn_le_s | apply rn_le_x)) jq11
  · replace h := rn_ifn c1 h
    refine rn_icmp_ne_f 14 (by exact dc_Rd_readRule 4 rfl) (by exact rfl) (Classical.not_not.mp c1) ?_
    refine rn_iconst (v := (0 : Int32)) (by exact dc_Rd_readRule 5 rfl) (by decide) ?_
    cases h
    exact rn_zreturn (by exact dc_Rd_readRule 6 rfl) (by exact rfl) (by first | exact Or.inl rfl | exact Or.inr rfl)
def F_Rd_firstWrongLine_L17 (d : tD) (l1 : Int32) : Nat → tG → tR → Int32 → Option ((Int32 × tG × tR) ⊕ (tG × tR))
  | 0, _, _, _ => none
  | n + 1, b, r, l2 =>
    if l1 < l2 then (
      some (.inr (b, r))
    ) else (
      Option.bind (F_Dr_lineEnd d ((R_end r) + (1 : Int32))) fun x3 =>
      Option.bind (F_Rd_isLeftOut d ((R_end r) + (1 : Int32), x3) ) fun x6 =>
      if ¬ x6 = 0 then (
        F_Rd_firstWrongLine_L17 d l1 n b ((R_end r) + (1 : Int32), x3) (l2 + 1)
      ) else (
        Option.bind (F_Rd_readRule d b ((R_end r) + (1 : Int32), x3) ) fun (x10, b11, r12) =>
        if ¬ x10 = 0 then (
          F_Rd_firstWrongLine_L17 d l1 n b11 r12 (l2 + 1)
        ) else (
          some (.inl (l2, b11, r12))
        )
      )
    )
set_option maxHeartbeats 4000000 in
set_option maxRecDepth 100000 in
theorem p_Rd_firstWrongLine_L17_b {Z : rn_Z} {g1 g2 : Nat} {x : tX} {d : tD} {c : tC} {u : tU} {t : tT} {a : tG}  {m : tM} {o : tO}   {l1 : Int32} {K : rn_K} {out : ((Int32 × tG × tR) ⊕ (tG × tR))} (hx : ∀ (bz : tG) (rz : tR), out = .inr (bz, rz) → Rn Z M_Rd_firstWrongLine 69 [some (.ref 77), some (.int l1), none] [] (emb g1 g2 x d c u t a bz m o [rd_cell rz]) 0 0 K) (hr : ∀ (rv : Int32) (bw : tG) (rw : tR), out = .inl (rv, bw, rw) → K = rn_Ret Z (some (.int rv)) (emb g1 g2 x d c u t a bw m o [rd_cell rw])) (n : Nat) : ∀ (b : tG) (r : tR) (l2 : Int32), F_Rd_firstWrongLine_L17 d l1 n b r l2 = some out → Rn Z M_Rd_firstWrongLine 17 [some (.ref 77), some (.int l1), some (.int l2)] [] (emb g1 g2 x d c u t a b m o [rd_cell r]) 0 0 K := by
  induction n with
  | zero =>
    intro b r l2 h
    rw [F_Rd_firstWrongLine_L17] at h
    cases h
  | succ n ih =>
    intro b r l2 h
    rw [F_Rd_firstWrongLine_L17] at h
    refine rn_iload_n (by exact dc_Rd_firstWrongLine 9 rfl) (by exact rfl) ?_
    refine rn_iload_n (by exact dc_Rd_firstWrongLine 10 rfl) (by exact rfl) ?_
    by_cases c1 : l1 < l2
    · replace h := rn_ifp c1 h
      refine rn_icmp_gt_t 69 (by exact dc_Rd_firstWrongLine 11 rfl) (by exact rfl) c1 ?_
      cases h
      exact rn_weak _ (by repeat (first | exact rn_le_0 | apply rn_le_s | apply rn_le_x)) (hx _ _ rfl)
    · replace h := rn_ifn c1 h
      refine rn_icmp_gt_f 69 (by exact dc_Rd_firstWrongLine 11 rfl) (by exact rfl) c1 ?_
      refine rn_aload_n (by exact dc_Rd_firstWrongLine 12 rfl) (by exact rfl) ?_
      refine rn_aload_n (by exact dc_Rd_firstWrongLine 13 rfl) (by exact rfl) ?_
      refine rn_getf (v := .int (R_end r)) fd_Rd_23 (by exact dc_Rd_firstWrongLine 14 rfl) (by exact rfl) (by exact rfl) ?_
      refine rn_iconst (v := (1 : Int32)) (by exact dc_Rd_firstWrongLine 15 rfl) (by decide) ?_
      refine rn_iadd (by exact dc_Rd_firstWrongLine 16 rfl) ?_
      refine rn_putf (w2 := (emb g1 g2 x d c u t a b m o [rd_cell ((R_end r) + (1 : Int32), R_end r)])) fd_Rd_19 (by exact dc_Rd_firstWrongLine 17 rfl) (by exact rfl) (by exact rfl) (by exact Nat.le_of_ble_eq_true rfl) (by exact rfl) ?_
      refine rn_aload_n (by exact dc_Rd_firstWrongLine 18 rfl) (by exact rfl) ?_
      refine rn_aload_n (by exact dc_Rd_firstWrongLine 19 rfl) (by exact rfl) ?_
      refine rn_getf (v := .ref 2) fd_Rd_9 (by exact dc_Rd_firstWrongLine 20 rfl) (by exact rfl) (by exact rfl) ?_
      refine rn_aload_n (by exact dc_Rd_firstWrongLine 21 rfl) (by exact rfl) ?_
      refine rn_getf (v := .int ((R_end r) + (1 : Int32))) fd_Rd_19 (by exact dc_Rd_firstWrongLine 22 rfl) (by exact rfl) (by exact rfl) ?_
      obtain ⟨x3, e2, h4⟩ := rn_bind h
      clear h
      refine rn_invV0 (by exact c_Dr_lineEnd e2) iv_Rd_37 (by exact ⟨Nat.le_of_ble_eq_true rfl, Nat.le_of_ble_eq_true rfl⟩) (by exact dc_Rd_firstWrongLine 23 rfl) (by exact rfl) (by exact rfl) (by exact rfl) (by exact Nat.le_of_ble_eq_true rfl) ?_
      show Rn _ _ 44 [some (.ref 77), some (.int l1), some (.int l2)] [.int x3, .ref 77] (emb g1 g2 x d c u t a b m o [rd_cell ((R_end r) + (1 : Int32), R_end r)]) _ _ _
      refine rn_putf (w2 := (emb g1 g2 x d c u t a b m o [rd_cell ((R_end r) + (1 : Int32), x3)])) fd_Rd_23 (by exact dc_Rd_firstWrongLine 24 rfl) (by exact rfl) (by exact rfl) (by exact Nat.le_of_ble_eq_true rfl) (by exact rfl) ?_
      refine rn_aload_n (by exact dc_Rd_firstWrongLine 25 rfl) (by exact rfl) ?_
      obtain ⟨x6, e5, h7⟩ := rn_bind h4
      clear h4
      refine rn_invV0 (by exact c_Rd_isLeftOut e5) iv_Rd_41 (by exact ⟨Nat.le_of_ble_eq_true rfl, Nat.le_of_ble_eq_true rfl⟩) (by exact dc_Rd_firstWrongLine 26 rfl) (by exact rfl) (by exact rfl) (by exact rfl) (by exact Nat.le_of_ble_eq_true rfl) ?_
      show Rn _ _ 51 [some (.ref 77), some (.int l1), some (.int l2)] [.int x6] (emb g1 g2 x d c u t a b m o [rd_cell ((R_end r) + (1 : Int32), x3)]) _ _ _
      by_cases c8 : ¬ x6 = 0
      · replace h7 := rn_ifp c8 h7
        refine rn_if_ne_t 63 (by exact dc_Rd_firstWrongLine 27 rfl) (by exact rfl) c8 ?_
        refine rn_iinc (ls' := [some (.ref 77), some (.int l1), some (.int (l2 + 1))]) (by exact dc_Rd_firstWrongLine 33 rfl) (by decide) (by exact rfl) (by exact rn_inc_1 _) (by exact rfl) ?_
        refine rn_goto 17 (by exact dc_Rd_firstWrongLine 34 rfl) (by exact rfl) ?_
        exact rn_weak _ (by repeat (first | exact rn_le_0 | apply rn_le_s | apply rn_le_x)) (ih _ _ _ h7)
      · replace h7 := rn_ifn c8 h7
        refine rn_if_ne_f 63 (by exact dc_Rd_firstWrongLine 27 rfl) (by exact rfl) (Classical.not_not.mp c8) ?_
        refine rn_aload_n (by exact dc_Rd_firstWrongLine 28 rfl) (by exact rfl) ?_
        obtain ⟨⟨x10, b11, r12⟩, e9, h13⟩ := rn_bind h7
        clear h7
        dsimp only at h13
        refine rn_invV0 (by exact c_Rd_readRule e9) iv_Rd_45 (by exact ⟨Nat.le_of_ble_eq_true rfl, Nat.le_of_ble_eq_true rfl⟩) (by exact dc_Rd_firstWrongLine 29 rfl) (by exact rfl) (by exact rfl) (by exact rfl) (by exact Nat.le_of_ble_eq_true rfl) ?_
        show Rn _ _ 58 [some (.ref 77), some (.int l1), some (.int l2)] [.int x10] (emb g1 g2 x d c u t a b11 m o [rd_cell r12]) _ _ _
        by_cases c14 : ¬ x10 = 0
        · replace h13 := rn_ifp c14 h13
          refine rn_if_ne_t 63 (by exact dc_Rd_firstWrongLine 30 rfl) (by exact rfl) c14 ?_
          refine rn_iinc (ls' := [some (.ref 77), some (.int l1), some (.int (l2 + 1))]) (by exact dc_Rd_firstWrongLine 33 rfl) (by decide) (by exact rfl) (by exact rn_inc_1 _) (by exact rfl) ?_
          refine rn_goto 17 (by exact dc_Rd_firstWrongLine 34 rfl) (by exact rfl) ?_
          exact rn_weak _ (by repeat (first | exact rn_le_0 | apply rn_le_s | apply rn_le_x)) (ih _ _ _ h13)
        · replace h13 := rn_ifn c14 h13
          refine rn_if_ne_f 63 (by exact dc_Rd_firstWrongLine 30 rfl) (by exact rfl) (Classical.not_not.mp c14) ?_
          refine rn_iload_n (by exact dc_Rd_firstWrongLine 31 rfl) (by exact rfl) ?_
          cases h13
          have hK := hr _ _ _ rfl
          subst hK
          exact rn_ireturn (by exact dc_Rd_firstWrongLine 32 rfl) (by exact rfl)
def F_Rd_firstWrongLine (d : tD) (b : tG) (r : tR)  : Option (Int32 × tG × tR) :=
  Option.bind (F_Gr_clear b ) fun b2 =>
  Option.bind (F_Dr_lineCount d ) fun x5 =>
  Option.bind (F_Rd_firstWrongLine_L17 d x5 rn_fu b2 r (1 : Int32)) fun z18 =>
  match z18 with
  | .inl r17 => some r17
  | .inr (b10, r11) =>
    Option.bind (
      if ¬ (G_ruleCount b10) = 0 then (
        some (0 : Int32)
      ) else (
        some (x5 + (1 : Int32) : Int32)
      )
     : Option Int32) fun y12 =>
    some (y12, b10, r11)
set_option maxHeartbeats 4000000 in
set_option maxRecDepth 100000 in
theorem c_Rd_firstWrongLine_b {Z : rn_Z} {g1 g2 : Nat} {x : tX} {d : tD} {c : tC} {u : tU} {t : tT} {a : tG} {b : tG} {m : tM} {o : tO} {r : tR}  {res : Int32} {bR : tG} {rR : tR} (h : F_Rd_firstWrongLine d b r  = some (res, bR, rR)) : Call Z M_Rd_firstWrongLine [.ref 77] (emb g1 g2 x d c u t a b m o [rd_cell r]) 0 0 (some (.int res)) (emb g1 g2 x d c u t a bR m o [rd_cell rR]) := by
  unfold F_Rd_firstWrongLine at h
  refine rn_call (by decide) 2 (by exact Nat.le_of_ble_eq_true rfl) ?_
  show Rn Z M_Rd_firstWrongLine 0 [some (.ref 77), none, none] [] (emb g1 g2 x d c u t a b m o [rd_cell r]) 0 0 _
  refine rn_aload_n (by exact dc_Rd_firstWrongLine 0 rfl) (by exact rfl) ?_
  refine rn_getf (v := .ref 44) fd_Rd_15 (by exact dc_Rd_firstWrongLine 1 rfl) (by exact rfl) (by exact rfl) ?_
  obtain ⟨b2, e1, h3⟩ := rn_bind h
  clear h
  refine rn_invV0 (by exact c_Gr_clear_b e1) iv_Rd_26 (by exact ⟨Nat.le_of_ble_eq_true rfl, Nat.le_of_ble_eq_true rfl⟩) (by exact dc_Rd_firstWrongLine 2 rfl) (by exact rfl) (by exact rfl) (by exact rfl) (by exact Nat.le_of_ble_eq_true rfl) ?_
  show Rn _ _ 7 [some (.ref 77), none, none] [] (emb g1 g2 x d c u t a b2 m o [rd_cell r]) _ _ _
  refine rn_aload_n (by exact dc_Rd_firstWrongLine 3 rfl) (by exact rfl) ?_
  refine rn_getf (v := .ref 2) fd_Rd_9 (by exact dc_Rd_firstWrongLine 4 rfl) (by exact rfl) (by exact rfl) ?_
  obtain ⟨x5, e4, h6⟩ := rn_bind h3
  clear h3
  refine rn_invV0 (by exact c_Dr_lineCount e4) iv_Rd_31 (by exact ⟨Nat.le_of_ble_eq_true rfl, Nat.le_of_ble_eq_true rfl⟩) (by exact dc_Rd_firstWrongLine 5 rfl) (by exact rfl) (by exact rfl) (by exact rfl) (by exact Nat.le_of_ble_eq_true rfl) ?_
  show Rn _ _ 14 [some (.ref 77), none, none] [.int x5] (emb g1 g2 x d c u t a b2 m o [rd_cell r]) _ _ _
  refine rn_istore_n (ls' := [some (.ref 77), some (.int x5), none]) (by exact dc_Rd_firstWrongLine 6 rfl) (by decide) (by exact rfl) ?_
  refine rn_iconst (v := (1 : Int32)) (by exact dc_Rd_firstWrongLine 7 rfl) (by decide) ?_
  refine rn_istore_n (ls' := [some (.ref 77), some (.int x5), some (.int (1 : Int32))]) (by exact dc_Rd_firstWrongLine 8 rfl) (by decide) (by exact rfl) ?_
  obtain ⟨z18, e7, h9⟩ := rn_bind h6
  clear h6
  rcases z18 with ⟨w19, w20, w21⟩ | ⟨b10, r11⟩
  · dsimp only at h9
    cases h9
    exact rn_weak _ (by repeat (first | exact rn_le_0 | apply rn_le_s | apply rn_le_x)) (p_Rd_firstWrongLine_L17_b (fun _ _ q => by cases q) (fun _ _ _ q => by cases q; rfl) _ _ _ _ e7)
  · dsimp only at h9
    have jx8 : Rn Z M_Rd_firstWrongLine 69 [some (.ref 77), some (.int x5), none] [] (emb g1 g2 x d c u t a b10 m o [rd_cell r11]) 0 0 (rn_Ret Z (some (.int res)) (emb g1 g2 x d c u t a bR m o [rd_cell rR])) := by
      refine rn_aload_n (by exact dc_Rd_firstWrongLine 35 rfl) (by exact rfl) ?_
      refine rn_getf (v := .ref 44) fd_Rd_15 (by exact dc_Rd_firstWrongLine 36 rfl) (by exact rfl) (by exact rfl) ?_
      refine rn_getf (v := .int (G_ruleCount b10)) fd_Rd_48 (by exact dc_Rd_firstWrongLine 37 rfl) (by exact rfl) (by exact rfl) ?_
      obtain ⟨y12, e13, h15⟩ := rn_bind h9
      clear h9
      have jq14 : Rn Z M_Rd_firstWrongLine 86 [none, none, none] [.int y12] (emb g1 g2 x d c u t a b10 m o [rd_cell r11]) 0 0 (rn_Ret Z (some (.int res)) (emb g1 g2 x d c u t a bR m o [rd_cell rR])) := by
        cases h15
        exact rn_ireturn (by exact dc_Rd_firstWrongLine 44 rfl) (by exact rfl)
      by_cases c16 : ¬ (G_ruleCount b10) = 0
      · replace e13 := rn_ifp c16 e13
        refine rn_if_ne_t 85 (by exact dc_Rd_firstWrongLine 38 rfl) (by exact rfl) c16 ?_
        refine rn_iconst (v := (0 : Int32)) (by exact dc_Rd_firstWrongLine 43 rfl) (by decide) ?_
        cases e13
        exact rn_weak _ (by repeat (first | exact rn_le_0 | apply rn_le_s | apply rn_le_x)) jq14
      · replace e13 := rn_ifn c16 e13
        refine rn_if_ne_f 85 (by exact dc_Rd_firstWrongLine 38 rfl) (by exact rfl) (Classical.not_not.mp c16) ?_
        refine rn_iload_n (by exact dc_Rd_firstWrongLine 39 rfl) (by exact rfl) ?_
        refine rn_iconst (v := (1 : Int32)) (by exact dc_Rd_firstWrongLine 40 rfl) (by decide) ?_
        refine rn_iadd (by exact dc_Rd_firstWrongLine 41 rfl) ?_
        refine rn_goto 86 (by exact dc_Rd_firstWrongLine 42 rfl) (by exact rfl) ?_
        cases e13
        exact rn_weak _ (by repeat (first | exact rn_le_0 | apply rn_le_s | apply rn_le_x)) jq14
    exact rn_weak _ (by repeat (first | exact rn_le_0 | apply rn_le_s | apply rn_le_x)) (p_Rd_firstWrongLine_L17_b (fun _ _ q => by cases q; exact jx8) (fun _ _ _ q => by cases q) _ _ _ _ e7)
def F_Ch_cell (v0 : Int32) (v1 : Int32) (v2 : Int32) : Option Int32 :=
  Option.bind (
    if ¬ v1 = v2 then (
      some ((v1 * (8 : Int32)) + v2)
    ) else (
      some (0 : Int32)
    )
   : Option Int32) fun y1 =>
  some ((y1 * (6 : Int32)) + v0)
set_option maxHeartbeats 4000000 in
set_option maxRecDepth 100000 in
theorem c_Ch_cell {Z : rn_Z} {g1 g2 : Nat} {x : tX} {d : tD} {c : tC} {u : tU} {t : tT} {a : tG} {b : tG} {m : tM} {o : tO} {E : List rn_C} {v0 : Int32} {v1 : Int32} {v2 : Int32} {res : Int32} (h : F_Ch_cell  v0 v1 v2 = some res) : Call Z M_Ch_cell [.int v0, .int v1, .int v2] (emb g1 g2 x d c u t a b m o E) 0 0 (some (.int res)) (emb g1 g2 x d c u t a b m o E) := by
  unfold F_Ch_cell at h
  refine rn_call (by decide) 1 (by exact Nat.le_of_ble_eq_true rfl) ?_
  show Rn Z M_Ch_cell 0 [some (.int v0), some (.int v1), some (.int v2), none] [] (emb g1 g2 x d c u t a b m o E) 0 0 _
  refine rn_iload_n (by exact dc_Ch_cell 0 rfl) (by exact rfl) ?_
  refine rn_iload_n (by exact dc_Ch_cell 1 rfl) (by exact rfl) ?_
  obtain ⟨y1, e2, h4⟩ := rn_bind h
  clear h
  have jq3 : Rn Z M_Ch_cell 15 [some (.int v0), none, none, none] [.int y1] (emb g1 g2 x d c u t a b m o E) 0 0 (rn_Ret Z (some (.int res)) (emb g1 g2 x d c u t a b m o E)) := by
    refine rn_istore_n (ls' := [some (.int v0), none, none, some (.int y1)]) (by exact dc_Ch_cell 10 rfl) (by decide) (by exact rfl) ?_
    refine rn_iload_n (by exact dc_Ch_cell 11 rfl) (by exact rfl) ?_
    refine rn_bipush (v := (6 : Int32)) (by exact dc_Ch_cell 12 rfl) (by decide) ?_
    refine rn_imul (by exact dc_Ch_cell 13 rfl) ?_
    refine rn_iload_n (by exact dc_Ch_cell 14 rfl) (by exact rfl) ?_
    refine rn_iadd (by exact dc_Ch_cell 15 rfl) ?_
    cases h4
    exact rn_ireturn (by exact dc_Ch_cell 16 rfl) (by exact rfl)
  by_cases c5 : ¬ v1 = v2
  · replace e2 := rn_ifp c5 e2
    refine rn_icmp_ne_t 9 (by exact dc_Ch_cell 2 rfl) (by exact rfl) c5 ?_
    refine rn_iload_n (by exact dc_Ch_cell 5 rfl) (by exact rfl) ?_
    refine rn_bipush (v := (8 : Int32)) (by exact dc_Ch_cell 6 rfl) (by decide) ?_
    refine rn_imul (by exact dc_Ch_cell 7 rfl) ?_
    refine rn_iload_n (by exact dc_Ch_cell 8 rfl) (by exact rfl) ?_
    refine rn_iadd (by exact dc_Ch_cell 9 rfl) ?_
    cases e2
    exact rn_weak _ (by repeat (first | exact rn_le_0 | apply rn_le_s | apply rn_le_x)) jq3
  · replace e2 := rn_ifn c5 e2
    refine rn_icmp_ne_f 9 (by exact dc_Ch_cell 2 rfl) (by exact rfl) (Classical.not_not.mp c5) ?_
    refine rn_iconst (v := (0 : Int32)) (by exact dc_Ch_cell 3 rfl) (by decide) ?_
    refine rn_goto 15 (by exact dc_Ch_cell 4 rfl) (by exact rfl) ?_
    cases e2
    exact rn_weak _ (by repeat (first | exact rn_le_0 | apply rn_le_s | apply rn_le_x)) jq3
def F_Ch_hasTree (c : tC) (v0 : Int32) (v1 : Int32) (v2 : Int32) : Option Int32 :=
  Option.bind (F_Ch_cell  v0 v1 v2) fun x2 =>
  Option.bind (aG (C_costs c) 390 x2) fun x4 =>
  Option.bind (
    if x4 = (-1 : Int32) then (
      some (0 : Int32)
    ) else (
      some (1 : Int32)
    )
   : Option Int32) fun y7 =>
  Option.bind (rn_bl y7) fun y12 =>
  some y12
set_option maxHeartbeats 4000000 in
set_option maxRecDepth 100000 in
theorem c_Ch_hasTree {Z : rn_Z} {g1 g2 : Nat} {x : tX} {d : tD} {c : tC} {u : tU} {t : tT} {a : tG} {b : tG} {m : tM} {o : tO} {E : List rn_C} {v0 : Int32} {v1 : Int32} {v2 : Int32} {res : Int32} (h : F_Ch_hasTree c v0 v1 v2 = some res) : Call Z M_Ch_hasTree [.ref 4, .int v0, .int v1, .int v2] (emb g1 g2 x d c u t a b m o E) 0 0 (some (.int res)) (emb g1 g2 x d c u t a b m o E) := by
  unfold F_Ch_hasTree at h
  refine rn_call (by decide) 0 (by exact Nat.le_of_ble_eq_true rfl) ?_
  show Rn Z M_Ch_hasTree 0 [some (.ref 4), some (.int v0), some (.int v1), some (.int v2)] [] (emb g1 g2 x d c u t a b m o E) 0 0 _
  refine rn_aload_n (by exact dc_Ch_hasTree 0 rfl) (by exact rfl) ?_
  refine rn_getf (v := .ref 6) fd_Ch_15 (by exact dc_Ch_hasTree 1 rfl) (by exact rfl) (by exact rfl) ?_
  refine rn_iload_n (by exact dc_Ch_hasTree 2 rfl) (by exact rfl) ?_
  refine rn_iload_n (by exact dc_Ch_hasTree 3 rfl) (by exact rfl) ?_
  refine rn_iload_n (by exact dc_Ch_hasTree 4 rfl) (by exact rfl) ?_
  obtain ⟨x2, e1, h3⟩ := rn_bind h
  clear h
  refine rn_invS0 (by exact c_Ch_cell e1) is_Ch_49 (by exact ⟨Nat.le_of_ble_eq_true rfl, Nat.le_of_ble_eq_true rfl⟩) (by exact dc_Ch_hasTree 5 rfl) (by exact rfl) (by exact rfl) (by exact Nat.le_of_ble_eq_true rfl) ?_
  show Rn _ _ 10 [some (.ref 4), some (.int v0), some (.int v1), some (.int v2)] [.int x2, .ref 6] (emb g1 g2 x d c u t a b m o E) _ _ _
  obtain ⟨x4, e5, h6⟩ := rn_bind h3
  clear h3
  refine rn_iaload (by exact dc_Ch_hasTree 6 rfl) (by exact rfl) e5 ?_
  refine rn_iconst (v := (-1 : Int32)) (by exact dc_Ch_hasTree 7 rfl) (by decide) ?_
  obtain ⟨y7, e8, h10⟩ := rn_bind h6
  clear h6
  have jq9 : Rn Z M_Ch_hasTree 20 [none, none, none, none] [.int y7] (emb g1 g2 x d c u t a b m o E) 0 0 (rn_Ret Z (some (.int res)) (emb g1 g2 x d c u t a b m o E)) := by
    obtain ⟨y12, e13, h15⟩ := rn_bind h10
    clear h10
    obtain ⟨rfl, hb14⟩ := rn_bl_some e13
    cases h15
    exact rn_zreturn (by exact dc_Ch_hasTree 12 rfl) (by exact rfl) hb14
  by_cases c11 : x4 = (-1 : Int32)
  · replace e8 := rn_ifp c11 e8
    refine rn_icmp_eq_t 19 (by exact dc_Ch_hasTree 8 rfl) (by exact rfl) c11 ?_
    refine rn_iconst (v := (0 : Int32)) (by exact dc_Ch_hasTree 11 rfl) (by decide) ?_
    cases e8
    exact rn_weak _ (by repeat (first | exact rn_le_0 | apply rn_le_s | apply rn_le_x)) jq9
  · replace e8 := rn_ifn c11 e8
    refine rn_icmp_eq_f 19 (by exact dc_Ch_hasTree 8 rfl) (by exact rfl) c11 ?_
    refine rn_iconst (v := (1 : Int32)) (by exact dc_Ch_hasTree 9 rfl) (by decide) ?_
    refine rn_goto 20 (by exact dc_Ch_hasTree 10 rfl) (by exact rfl) ?_
    cases e8
    exact rn_weak _ (by repeat (first | exact rn_le_0 | apply rn_le_s | apply rn_le_x)) jq9
def F_Ch_emptySum (c : tC) (v0 : Int32) : Option Int64 :=
  Option.bind (F_Ch_cell  v0 (0 : Int32) (0 : Int32)) fun x2 =>
  Option.bind (aG (C_sums c) 390 x2) fun x4 =>
  some x4
set_option maxHeartbeats 4000000 in
set_option maxRecDepth 100000 in
theorem c_Ch_emptySum {Z : rn_Z} {g1 g2 : Nat} {x : tX} {d : tD} {c : tC} {u : tU} {t : tT} {a : tG} {b : tG} {m : tM} {o : tO} {E : List rn_C} {v0 : Int32} {res : Int64} (h : F_Ch_emptySum c v0 = some res) : Call Z M_Ch_emptySum [.ref 4, .int v0] (emb g1 g2 x d c u t a b m o E) 0 0 (some (.long res)) (emb g1 g2 x d c u t a b m o E) := by
  unfold F_Ch_emptySum at h
  refine rn_call (by decide) 0 (by exact Nat.le_of_ble_eq_true rfl) ?_
  show Rn Z M_Ch_emptySum 0 [some (.ref 4), some (.int v0)] [] (emb g1 g2 x d c u t a b m o E) 0 0 _
  refine rn_aload_n (by exact dc_Ch_emptySum 0 rfl) (by exact rfl) ?_
  refine rn_getf (v := .ref 5) fd_Ch_11 (by exact dc_Ch_emptySum 1 rfl) (by exact rfl) (by exact rfl) ?_
  refine rn_iload_n (by exact dc_Ch_emptySum 2 rfl) (by exact rfl) ?_
  refine rn_iconst (v := (0 : Int32)) (by exact dc_Ch_emptySum 3 rfl) (by decide) ?_
  refine rn_iconst (v := (0 : Int32)) (by exact dc_Ch_emptySum 4 rfl) (by decide) ?_
  obtain ⟨x2, e1, h3⟩ := rn_bind h
  clear h
  refine rn_invS0 (by exact c_Ch_cell e1) is_Ch_49 (by exact ⟨Nat.le_of_ble_eq_true rfl, Nat.le_of_ble_eq_true rfl⟩) (by exact dc_Ch_emptySum 5 rfl) (by exact rfl) (by exact rfl) (by exact Nat.le_of_ble_eq_true rfl) ?_
  show Rn _ _ 10 [some (.ref 4), some (.int v0)] [.int x2, .ref 5] (emb g1 g2 x d c u t a b m o E) _ _ _
  obtain ⟨x4, e5, h6⟩ := rn_bind h3
  clear h3
  refine rn_laload (by exact dc_Ch_emptySum 6 rfl) (by exact rfl) e5 ?_
  cases h6
  exact rn_lreturn (by exact dc_Ch_emptySum 7 rfl) (by exact rfl)
def F_Ch_dropText (c : tC)  : Option tC :=
  some (C_sums c, C_costs c, C_rules c, C_sizes c, C_lengths c, C_letters c, (-1 : Int32), C_restSums c, C_restCosts c, C_restLengths c)
set_option maxHeartbeats 4000000 in
set_option maxRecDepth 100000 in
theorem c_Ch_dropText {Z : rn_Z} {g1 g2 : Nat} {x : tX} {d : tD} {c : tC} {u : tU} {t : tT} {a : tG} {b : tG} {m : tM} {o : tO} {E : List rn_C}  {cR : tC} (h : F_Ch_dropText c  = some cR) : Call Z M_Ch_dropText [.ref 4] (emb g1 g2 x d c u t a b m o E) 0 0 none (emb g1 g2 x d cR u t a b m o E) := by
  unfold F_Ch_dropText at h
  refine rn_call (by decide) 0 (by exact Nat.le_of_ble_eq_true rfl) ?_
  show Rn Z M_Ch_dropText 0 [some (.ref 4)] [] (emb g1 g2 x d c u t a b m o E) 0 0 _
  refine rn_aload_n (by exact dc_Ch_dropText 0 rfl) (by exact rfl) ?_
  refine rn_iconst (v := (-1 : Int32)) (by exact dc_Ch_dropText 1 rfl) (by decide) ?_
  refine rn_putf (w2 := (emb g1 g2 x d (C_sums c, C_costs c, C_rules c, C_sizes c, C_lengths c, C_letters c, (-1 : Int32), C_restSums c, C_restCosts c, C_restLengths c) u t a b m o E)) fd_Ch_32 (by exact dc_Ch_dropText 2 rfl) (by exact rfl) (by exact rfl) (by exact Nat.le_of_ble_eq_true rfl) (by exact rfl) ?_
  cases h
  exact rn_return (by exact dc_Ch_dropText 3 rfl) (by exact rfl)
def F_Ch_takeText_L10 (d : tD) : Nat → tC → Int32 → Option tC
  | 0, _, _ => none
  | n + 1, c, l2 =>
    if (C_textLength c) ≤ l2 then (
      some c
    ) else (
      Option.bind (aG (D_characters d) 300 l2) fun x2 =>
      Option.bind (aS (C_letters c) 8 l2 (rn_ch x2)) fun f5 =>
      F_Ch_takeText_L10 d n (C_sums c, C_costs c, C_rules c, C_sizes c, C_lengths c, f5, C_textLength c, C_restSums c, C_restCosts c, C_restLengths c) (l2 + 1)
    )
set_option maxHeartbeats 4000000 in
set_option maxRecDepth 100000 in
theorem p_Ch_takeText_L10 {Z : rn_Z} {g1 g2 : Nat} {x : tX} {d : tD}  {u : tU} {t : tT} {a : tG} {b : tG} {m : tM} {o : tO} {E : List rn_C}   {K : rn_K} {cz : tC} (hx : Rn Z M_Ch_takeText 36 [none, none, none] [] (emb g1 g2 x d cz u t a b m o E) 0 0 K) (n : Nat) : ∀ (c : tC) (l2 : Int32), F_Ch_takeText_L10 d n c l2 = some cz → Rn Z M_Ch_takeText 10 [some (.ref 4), some (.ref 2), some (.int l2)] [] (emb g1 g2 x d c u t a b m o E) 0 0 K := by
  induction n with
  | zero =>
    intro c l2 h
    rw [F_Ch_takeText_L10] at h
    cases h
  | succ n ih =>
    intro c l2 h
    rw [F_Ch_takeText_L10] at h
    refine rn_iload_n (by exact dc_Ch_takeText 6 rfl) (by exact rfl) ?_
    refine rn_aload_n (by exact dc_Ch_takeText 7 rfl) (by exact rfl) ?_
    refine rn_getf (v := .int (C_textLength c)) fd_Ch_32 (by exact dc_Ch_takeText 8 rfl) (by exact rfl) (by exact rfl) ?_
    by_cases c1 : (C_textLength c) ≤ l2
    · replace h := rn_ifp c1 h
      refine rn_icmp_ge_t 36 (by exact dc_Ch_takeText 9 rfl) (by exact rfl) c1 ?_
      cases h
      exact rn_weak _ (by repeat (first | exact rn_le_0 | apply rn_le_s | apply rn_le_x)) hx
    · replace h := rn_ifn c1 h
      refine rn_icmp_ge_f 36 (by exact dc_Ch_takeText 9 rfl) (by exact rfl) c1 ?_
      refine rn_aload_n (by exact dc_Ch_takeText 10 rfl) (by exact rfl) ?_
      refine rn_getf (v := .ref 10) fd_Ch_28 (by exact dc_Ch_takeText 11 rfl) (by exact rfl) (by exact rfl) ?_
      refine rn_iload_n (by exact dc_Ch_takeText 12 rfl) (by exact rfl) ?_
      refine rn_aload_n (by exact dc_Ch_takeText 13 rfl) (by exact rfl) ?_
      refine rn_getf (v := .ref 3) fd_Ch_58 (by exact dc_Ch_takeText 14 rfl) (by exact rfl) (by exact rfl) ?_
      refine rn_iload_n (by exact dc_Ch_takeText 15 rfl) (by exact rfl) ?_
      obtain ⟨x2, e3, h4⟩ := rn_bind h
      clear h
      refine rn_caload (by exact dc_Ch_takeText 16 rfl) (by exact rfl) e3 ?_
      obtain ⟨f5, e6, h7⟩ := rn_bind h4
      clear h4
      refine rn_castore (w2 := (emb g1 g2 x d (C_sums c, C_costs c, C_rules c, C_sizes c, C_lengths c, f5, C_textLength c, C_restSums c, C_restCosts c, C_restLengths c) u t a b m o E)) (by exact dc_Ch_takeText 17 rfl) (by exact rfl) e6 (by exact rfl) ?_
      refine rn_iinc (ls' := [some (.ref 4), some (.ref 2), some (.int (l2 + 1))]) (by exact dc_Ch_takeText 18 rfl) (by decide) (by exact rfl) (by exact rn_inc_1 _) (by exact rfl) ?_
      refine rn_goto 10 (by exact dc_Ch_takeText 19 rfl) (by exact rfl) ?_
      exact rn_weak _ (by repeat (first | exact rn_le_0 | apply rn_le_s | apply rn_le_x)) (ih _ _ h7)
def F_Ch_takeText (d : tD) (c : tC)  : Option tC :=
  Option.bind (F_Ch_takeText_L10 d rn_fu (C_sums c, C_costs c, C_rules c, C_sizes c, C_lengths c, C_letters c, D_length d, C_restSums c, C_restCosts c, C_restLengths c) (0 : Int32)) fun c4 =>
  some c4
set_option maxHeartbeats 4000000 in
set_option maxRecDepth 100000 in
theorem c_Ch_takeText {Z : rn_Z} {g1 g2 : Nat} {x : tX} {d : tD} {c : tC} {u : tU} {t : tT} {a : tG} {b : tG} {m : tM} {o : tO} {E : List rn_C}  {cR : tC} (h : F_Ch_takeText d c  = some cR) : Call Z M_Ch_takeText [.ref 4, .ref 2] (emb g1 g2 x d c u t a b m o E) 0 0 none (emb g1 g2 x d cR u t a b m o E) := by
  unfold F_Ch_takeText at h
  refine rn_call (by decide) 1 (by exact Nat.le_of_ble_eq_true rfl) ?_
  show Rn Z M_Ch_takeText 0 [some (.ref 4), some (.ref 2), none] [] (emb g1 g2 x d c u t a b m o E) 0 0 _
  refine rn_aload_n (by exact dc_Ch_takeText 0 rfl) (by exact rfl) ?_
  refine rn_aload_n (by exact dc_Ch_takeText 1 rfl) (by exact rfl) ?_
  refine rn_getf (v := .int (D_length d)) fd_Ch_53 (by exact dc_Ch_takeText 2 rfl) (by exact rfl) (by exact rfl) ?_
  refine rn_putf (w2 := (emb g1 g2 x d (C_sums c, C_costs c, C_rules c, C_sizes c, C_lengths c, C_letters c, D_length d, C_restSums c, C_restCosts c, C_restLengths c) u t a b m o E)) fd_Ch_32 (by exact dc_Ch_takeText 3 rfl) (by exact rfl) (by exact rfl) (by exact Nat.le_of_ble_eq_true rfl) (by exact rfl) ?_
  refine rn_iconst (v := (0 : Int32)) (by exact dc_Ch_takeText 4 rfl) (by decide) ?_
  refine rn_istore_n (ls' := [some (.ref 4), some (.ref 2), some (.int (0 : Int32))]) (by exact dc_Ch_takeText 5 rfl) (by decide) (by exact rfl) ?_
  obtain ⟨c4, e1, h3⟩ := rn_bind h
  clear h
  have jx2 : Rn Z M_Ch_takeText 36 [none, none, none] [] (emb g1 g2 x d c4 u t a b m o E) 0 0 (rn_Ret Z none (emb g1 g2 x d cR u t a b m o E)) := by
    cases h3
    exact rn_return (by exact dc_Ch_takeText 20 rfl) (by exact rfl)
  exact rn_weak _ (by repeat (first | exact rn_le_0 | apply rn_le_s | apply rn_le_x)) (p_Ch_takeText_L10 jx2 _ _ _ e1)
end
section
set_option maxHeartbeats 4000000 in
set_option maxRecDepth 100000 in
theorem c_Gr_symbol {Z : rn_Z} {g1 g2 : Nat} {x : tX} {d : tD} {c : tC} {u : tU} {t : tT} {a : tG} {b : tG} {m : tM} {o : tO} {E : List rn_C} {v0 : Int32} {v1 : Int32} {res : Int32} (h : F_Gr_symbol a v0 v1 = some res) : Call Z M_Gr_symbol [.ref 35, .int v0, .int v1] (emb g1 g2 x d c u t a b m o E) 0 0 (some (.int res)) (emb g1 g2 x d c u t a b m o E) := by
  unfold F_Gr_symbol at h
  refine rn_call (by decide) 0 (by exact Nat.le_of_ble_eq_true rfl) ?_
  show Rn Z M_Gr_symbol 0 [some (.ref 35), some (.int v0), some (.int v1)] [] (emb g1 g2 x d c u t a b m o E) 0 0 _
  refine rn_aload_n (by exact dc_Gr_symbol 0 rfl) (by exact rfl) ?_
  refine rn_getf (v := .ref 37) fd_Gr_15 (by exact dc_Gr_symbol 1 rfl) (by exact rfl) (by exact rfl) ?_
  refine rn_iload_n (by exact dc_Gr_symbol 2 rfl) (by exact rfl) ?_
  refine rn_iconst (v := (4 : Int32)) (by exact dc_Gr_symbol 3 rfl) (by decide) ?_
  refine rn_imul (by exact dc_Gr_symbol 4 rfl) ?_
  refine rn_iload_n (by exact dc_Gr_symbol 5 rfl) (by exact rfl) ?_
  refine rn_iadd (by exact dc_Gr_symbol 6 rfl) ?_
  obtain ⟨x1, e2, h3⟩ := rn_bind h
  clear h
  refine rn_iaload (by exact dc_Gr_symbol 7 rfl) (by exact rfl) e2 ?_
  cases h3
  exact rn_ireturn (by exact dc_Gr_symbol 8 rfl) (by exact rfl)
def F_Ch_matchTerminal (c : tC) (v0 : Int32) (v1 : Int32) (v2 : Int32) (v3 : Int32) : Option tC :=
  Option.bind (
    if v3 ≤ v2 then (
      some (0 : Int32)
    ) else (
      Option.bind (aG (C_letters c) 8 v2) fun x6 =>
      if ¬ x6 = v0 then (
        some (0 : Int32)
      ) else (
        some (1 : Int32)
      )
    )
   : Option Int32) fun y1 =>
  Option.bind (aI 5 v1) fun j10 =>
  Option.bind (
    if y1 = 0 then (
      some (0 : Int64)
    ) else (
      Option.bind (aI 5 (v1 + (1 : Int32))) fun j18 =>
      Option.bind (aG (C_restSums c j18) 9 (v2 + (1 : Int32))) fun x21 =>
      some (x21 : Int64)
    )
   : Option Int64) fun y13 =>
  Option.bind (aS (C_restSums c j10) 9 v2 y13) fun f24 =>
  Option.bind (aI 5 v1) fun j27 =>
  Option.bind (
    if y1 = 0 then (
      some (-1 : Int32)
    ) else (
      Option.bind (aI 5 (v1 + (1 : Int32))) fun j35 =>
      Option.bind (aG (C_restCosts c j35) 9 (v2 + (1 : Int32))) fun x38 =>
      some (x38 : Int32)
    )
   : Option Int32) fun y30 =>
  Option.bind (aS (C_restCosts c j27) 9 v2 y30) fun f41 =>
  Option.bind (aI 4 v1) fun j44 =>
  Option.bind (aS (C_restLengths c j44) 9 v2 (1 : Int32)) fun f47 =>
  some (C_sums c, C_costs c, C_rules c, C_sizes c, C_lengths c, C_letters c, C_textLength c, up2 (C_restSums c) j10 f24, up2 (C_restCosts c) j27 f41, up2 (C_restLengths c) j44 f47)
set_option maxHeartbeats 4000000 in
set_option maxRecDepth 100000 in
theorem c_Ch_matchTerminal {Z : rn_Z} {g1 g2 : Nat} {x : tX} {d : tD} {c : tC} {u : tU} {t : tT} {a : tG} {b : tG} {m : tM} {o : tO} {E : List rn_C} {v0 : Int32} {v1 : Int32} {v2 : Int32} {v3 : Int32} {cR : tC} (h : F_Ch_matchTerminal c v0 v1 v2 v3 = some cR) : Call Z M_Ch_matchTerminal [.ref 4, .int v0, .int v1, .int v2, .int v3] (emb g1 g2 x d c u t a b m o E) 0 0 none (emb g1 g2 x d cR u t a b m o E) := by
  unfold F_Ch_matchTerminal at h
  refine rn_call (by decide) 1 (by exact Nat.le_of_ble_eq_true rfl) ?_
  show Rn Z M_Ch_matchTerminal 0 [some (.ref 4), some (.int v0), some (.int v1), some (.int v2), some (.int v3), none] [] (emb g1 g2 x d c u t a b m o E) 0 0 _
  refine rn_iload_n (by exact dc_Ch_matchTerminal 0 rfl) (by exact rfl) ?_
  refine rn_iload (by exact dc_Ch_matchTerminal 1 rfl) (by exact rfl) ?_
  obtain ⟨y1, e2, h4⟩ := rn_bind h
  clear h
  have jq3 : Rn Z M_Ch_matchTerminal 21 [some (.ref 4), none, some (.int v1), some (.int v2), none, none] [.int y1] (emb g1 g2 x d c u t a b m o E) 0 0 (rn_Ret Z none (emb g1 g2 x d cR u t a b m o E)) := by
    refine rn_istore (ls' := [some (.ref 4), none, some (.int v1), some (.int v2), none, some (.int y1)]) (by exact dc_Ch_matchTerminal 12 rfl) (by decide) (by exact rfl) ?_
    refine rn_aload_n (by exact dc_Ch_matchTerminal 13 rfl) (by exact rfl) ?_
    refine rn_getf (v := .ref 11) fd_Ch_38 (by exact dc_Ch_matchTerminal 14 rfl) (by exact rfl) (by exact rfl) ?_
    refine rn_iload_n (by exact dc_Ch_matchTerminal 15 rfl) (by exact rfl) ?_
    obtain ⟨j10, e11, h12⟩ := rn_bind h4
    clear h4
    refine rn_aaload (y := 12 + j10) (by exact dc_Ch_matchTerminal 16 rfl) (by exact rfl) (by exact (aI_some e11).1) (by exact aq_restSums e11) ?_
    refine rn_iload_n (by exact dc_Ch_matchTerminal 17 rfl) (by exact rfl) ?_
    refine rn_iload (by exact dc_Ch_matchTerminal 18 rfl) (by exact rfl) ?_
    obtain ⟨y13, e14, h16⟩ := rn_bind h12
    clear h12
    have jq15 : Rn Z M_Ch_matchTerminal 51 [some (.ref 4), none, some (.int v1), some (.int v2), none, some (.int y1)] [.long y13, .int v2, .ref (12 + j10)] (emb g1 g2 x d c u t a b m o E) 0 0 (rn_Ret Z none (emb g1 g2 x d cR u t a b m o E)) := by
      obtain ⟨f24, e25, h26⟩ := rn_bind h16
      clear h16
      refine rn_lastore (w2 := (emb g1 g2 x d (C_sums c, C_costs c, C_rules c, C_sizes c, C_lengths c, C_letters c, C_textLength c, up2 (C_restSums c) j10 f24, C_restCosts c, C_restLengths c) u t a b m o E)) (by exact dc_Ch_matchTerminal 32 rfl) (by exact ag_restSums e11) e25 (by exact as_restSums e11) ?_
      refine rn_aload_n (by exact dc_Ch_matchTerminal 33 rfl) (by exact rfl) ?_
      refine rn_getf (v := .ref 17) fd_Ch_43 (by exact dc_Ch_matchTerminal 34 rfl) (by exact rfl) (by exact rfl) ?_
      refine rn_iload_n (by exact dc_Ch_matchTerminal 35 rfl) (by exact rfl) ?_
      obtain ⟨j27, e28, h29⟩ := rn_bind h26
      clear h26
      refine rn_aaload (y := 18 + j27) (by exact dc_Ch_matchTerminal 36 rfl) (by exact rfl) (by exact (aI_some e28).1) (by exact aq_restCosts e28) ?_
      refine rn_iload_n (by exact dc_Ch_matchTerminal 37 rfl) (by exact rfl) ?_
      refine rn_iload (by exact dc_Ch_matchTerminal 38 rfl) (by exact rfl) ?_
      obtain ⟨y30, e31, h33⟩ := rn_bind h29
      clear h29
      have jq32 : Rn Z M_Ch_matchTerminal 80 [some (.ref 4), none, some (.int v1), some (.int v2), none, none] [.int y30, .int v2, .ref (18 + j27)] (emb g1 g2 x d (C_sums c, C_costs c, C_rules c, C_sizes c, C_lengths c, C_letters c, C_textLength c, up2 (C_restSums c) j10 f24, C_restCosts c, C_restLengths c) u t a b m o E) 0 0 (rn_Ret Z none (emb g1 g2 x d cR u t a b m o E)) := by
        obtain ⟨f41, e42, h43⟩ := rn_bind h33
        clear h33
        refine rn_iastore (w2 := (emb g1 g2 x d (C_sums c, C_costs c, C_rules c, C_sizes c, C_lengths c, C_letters c, C_textLength c, up2 (C_restSums c) j10 f24, up2 (C_restCosts c) j27 f41, C_restLengths c) u t a b m o E)) (by exact dc_Ch_matchTerminal 52 rfl) (by exact ag_restCosts e28) e42 (by exact as_restCosts e28) ?_
        refine rn_aload_n (by exact dc_Ch_matchTerminal 53 rfl) (by exact rfl) ?_
        refine rn_getf (v := .ref 23) fd_Ch_46 (by exact dc_Ch_matchTerminal 54 rfl) (by exact rfl) (by exact rfl) ?_
        refine rn_iload_n (by exact dc_Ch_matchTerminal 55 rfl) (by exact rfl) ?_
        obtain ⟨j44, e45, h46⟩ := rn_bind h43
        clear h43
        refine rn_aaload (y := 24 + j44) (by exact dc_Ch_matchTerminal 56 rfl) (by exact rfl) (by exact (aI_some e45).1) (by exact aq_restLengths e45) ?_
        refine rn_iload_n (by exact dc_Ch_matchTerminal 57 rfl) (by exact rfl) ?_
        refine rn_iconst (v := (1 : Int32)) (by exact dc_Ch_matchTerminal 58 rfl) (by decide) ?_
        obtain ⟨f47, e48, h49⟩ := rn_bind h46
        clear h46
        refine rn_iastore (w2 := (emb g1 g2 x d (C_sums c, C_costs c, C_rules c, C_sizes c, C_lengths c, C_letters c, C_textLength c, up2 (C_restSums c) j10 f24, up2 (C_restCosts c) j27 f41, up2 (C_restLengths c) j44 f47) u t a b m o E)) (by exact dc_Ch_matchTerminal 59 rfl) (by exact ag_restLengths e45) e48 (by exact as_restLengths e45) ?_
        cases h49
        exact rn_return (by exact dc_Ch_matchTerminal 60 rfl) (by exact rfl)
      by_cases c34 : y1 = 0
      · replace e31 := rn_ifp c34 e31
        refine rn_if_eq_t 79 (by exact dc_Ch_matchTerminal 39 rfl) (by exact rfl) c34 ?_
        refine rn_iconst (v := (-1 : Int32)) (by exact dc_Ch_matchTerminal 51 rfl) (by decide) ?_
        cases e31
        exact rn_weak _ (by repeat (first | exact rn_le_0 | apply rn_le_s | apply rn_le_x)) jq32
      · replace e31 := rn_ifn c34 e31
        refine rn_if_eq_f 79 (by exact dc_Ch_matchTerminal 39 rfl) (by exact rfl) c34 ?_
        refine rn_aload_n (by exact dc_Ch_matchTerminal 40 rfl) (by exact rfl) ?_
        refine rn_getf (v := .ref 17) fd_Ch_43 (by exact dc_Ch_matchTerminal 41 rfl) (by exact rfl) (by exact rfl) ?_
        refine rn_iload_n (by exact dc_Ch_matchTerminal 42 rfl) (by exact rfl) ?_
        refine rn_iconst (v := (1 : Int32)) (by exact dc_Ch_matchTerminal 43 rfl) (by decide) ?_
        refine rn_iadd (by exact dc_Ch_matchTerminal 44 rfl) ?_
        obtain ⟨j35, e36, h37⟩ := rn_bind e31
        clear e31
        refine rn_aaload (y := 18 + j35) (by exact dc_Ch_matchTerminal 45 rfl) (by exact rfl) (by exact (aI_some e36).1) (by exact aq_restCosts e36) ?_
        refine rn_iload_n (by exact dc_Ch_matchTerminal 46 rfl) (by exact rfl) ?_
        refine rn_iconst (v := (1 : Int32)) (by exact dc_Ch_matchTerminal 47 rfl) (by decide) ?_
        refine rn_iadd (by exact dc_Ch_matchTerminal 48 rfl) ?_
        obtain ⟨x38, e39, h40⟩ := rn_bind h37
        clear h37
        refine rn_iaload (by exact dc_Ch_matchTerminal 49 rfl) (by exact ag_restCosts e36) e39 ?_
        refine rn_goto 80 (by exact dc_Ch_matchTerminal 50 rfl) (by exact rfl) ?_
        cases h40
        exact rn_weak _ (by repeat (first | exact rn_le_0 | apply rn_le_s | apply rn_le_x)) jq32
    by_cases c17 : y1 = 0
    · replace e14 := rn_ifp c17 e14
      refine rn_if_eq_t 50 (by exact dc_Ch_matchTerminal 19 rfl) (by exact rfl) c17 ?_
      refine rn_lconst (v := (0 : Int64)) (by exact dc_Ch_matchTerminal 31 rfl) (by decide) ?_
      cases e14
      exact rn_weak _ (by repeat (first | exact rn_le_0 | apply rn_le_s | apply rn_le_x)) jq15
    · replace e14 := rn_ifn c17 e14
      refine rn_if_eq_f 50 (by exact dc_Ch_matchTerminal 19 rfl) (by exact rfl) c17 ?_
      refine rn_aload_n (by exact dc_Ch_matchTerminal 20 rfl) (by exact rfl) ?_
      refine rn_getf (v := .ref 11) fd_Ch_38 (by exact dc_Ch_matchTerminal 21 rfl) (by exact rfl) (by exact rfl) ?_
      refine rn_iload_n (by exact dc_Ch_matchTerminal 22 rfl) (by exact rfl) ?_
      refine rn_iconst (v := (1 : Int32)) (by exact dc_Ch_matchTerminal 23 rfl) (by decide) ?_
      refine rn_iadd (by exact dc_Ch_matchTerminal 24 rfl) ?_
      obtain ⟨j18, e19, h20⟩ := rn_bind e14
      clear e14
      refine rn_aaload (y := 12 + j18) (by exact dc_Ch_matchTerminal 25 rfl) (by exact rfl) (by exact (aI_some e19).1) (by exact aq_restSums e19) ?_
      refine rn_iload_n (by exact dc_Ch_matchTerminal 26 rfl) (by exact rfl) ?_
      refine rn_iconst (v := (1 : Int32)) (by exact dc_Ch_matchTerminal 27 rfl) (by decide) ?_
      refine rn_iadd (by exact dc_Ch_matchTerminal 28 rfl) ?_
      obtain ⟨x21, e22, h23⟩ := rn_bind h20
      clear h20
      refine rn_laload (by exact dc_Ch_matchTerminal 29 rfl) (by exact ag_restSums e19) e22 ?_
      refine rn_goto 51 (by exact dc_Ch_matchTerminal 30 rfl) (by exact rfl) ?_
      cases h23
      exact rn_weak _ (by repeat (first | exact rn_le_0 | apply rn_le_s | apply rn_le_x)) jq15
  by_cases c5 : v3 ≤ v2
  · replace e2 := rn_ifp c5 e2
    refine rn_icmp_ge_t 20 (by exact dc_Ch_matchTerminal 2 rfl) (by exact rfl) c5 ?_
    refine rn_iconst (v := (0 : Int32)) (by exact dc_Ch_matchTerminal 11 rfl) (by decide) ?_
    cases e2
    exact rn_weak _ (by repeat (first | exact rn_le_0 | apply rn_le_s | apply rn_le_x)) jq3
  · replace e2 := rn_ifn c5 e2
    refine rn_icmp_ge_f 20 (by exact dc_Ch_matchTerminal 2 rfl) (by exact rfl) c5 ?_
    refine rn_aload_n (by exact dc_Ch_matchTerminal 3 rfl) (by exact rfl) ?_
    refine rn_getf (v := .ref 10) fd_Ch_28 (by exact dc_Ch_matchTerminal 4 rfl) (by exact rfl) (by exact rfl) ?_
    refine rn_iload_n (by exact dc_Ch_matchTerminal 5 rfl) (by exact rfl) ?_
    obtain ⟨x6, e7, h8⟩ := rn_bind e2
    clear e2
    refine rn_caload (by exact dc_Ch_matchTerminal 6 rfl) (by exact rfl) e7 ?_
    refine rn_iload_n (by exact dc_Ch_matchTerminal 7 rfl) (by exact rfl) ?_
    by_cases c9 : ¬ x6 = v0
    · replace h8 := rn_ifp c9 h8
      refine rn_icmp_ne_t 20 (by exact dc_Ch_matchTerminal 8 rfl) (by exact rfl) c9 ?_
      refine rn_iconst (v := (0 : Int32)) (by exact dc_Ch_matchTerminal 11 rfl) (by decide) ?_
      cases h8
      exact rn_weak _ (by repeat (first | exact rn_le_0 | apply rn_le_s | apply rn_le_x)) jq3
    · replace h8 := rn_ifn c9 h8
      refine rn_icmp_ne_f 20 (by exact dc_Ch_matchTerminal 8 rfl) (by exact rfl) (Classical.not_not.mp c9) ?_
      refine rn_iconst (v := (1 : Int32)) (by exact dc_Ch_matchTerminal 9 rfl) (by decide) ?_
      refine rn_goto 21 (by exact dc_Ch_matchTerminal 10 rfl) (by exact rfl) ?_
      cases h8
      exact rn_weak _ (by repeat (first | exact rn_le_0 | apply rn_le_s | apply rn_le_x)) jq3
def F_Ch_matchNonterminal_L9 (l1 : Int32) (l2 : Int32) (l3 : Int32) (l4 : Int32) : Nat → tC → Int64 → Int32 → Int32 → Option (Int64 × Int32 × tC)
  | 0, _, _, _, _ => none
  | n + 1, c, l5, l7, l8 =>
    if l4 < l8 then (
      some (l5, l7, c)
    ) else (
      Option.bind (F_Ch_cell  l1 l3 l8) fun x3 =>
      Option.bind (aG (C_costs c) 390 x3) fun x5 =>
      Option.bind (
        if x5 = (-1 : Int32) then (
          some ((l5 : Int64), (l7 : Int32), c)
        ) else (
          Option.bind (aI 5 (l2 + (1 : Int32))) fun j15 =>
          Option.bind (aG (C_restCosts c j15) 9 l8) fun x18 =>
          if x18 = (-1 : Int32) then (
            some ((l5 : Int64), (l7 : Int32), c)
          ) else (
            Option.bind (aG (C_sums c) 390 x3) fun x22 =>
            Option.bind (aI 5 (l2 + (1 : Int32))) fun j25 =>
            Option.bind (aG (C_restSums c j25) 9 l8) fun x28 =>
            Option.bind (aG (C_costs c) 390 x3) fun x31 =>
            Option.bind (aI 5 (l2 + (1 : Int32))) fun j34 =>
            Option.bind (aG (C_restCosts c j34) 9 l8) fun x37 =>
            if l7 = (-1 : Int32) then (
              Option.bind (aI 4 l2) fun j41 =>
              Option.bind (aS (C_restLengths c j41) 9 l3 (l8 - l3)) fun f44 =>
              some ((l5 + (x22 * x28) : Int64), (x31 + x37 : Int32), (C_sums c, C_costs c, C_rules c, C_sizes c, C_lengths c, C_letters c, C_textLength c, C_restSums c, C_restCosts c, up2 (C_restLengths c) j41 f44))
            ) else (
              if l7 ≤ (x31 + x37) then (
                some ((l5 + (x22 * x28) : Int64), (l7 : Int32), c)
              ) else (
                Option.bind (aI 4 l2) fun j48 =>
                Option.bind (aS (C_restLengths c j48) 9 l3 (l8 - l3)) fun f51 =>
                some ((l5 + (x22 * x28) : Int64), (x31 + x37 : Int32), (C_sums c, C_costs c, C_rules c, C_sizes c, C_lengths c, C_letters c, C_textLength c, C_restSums c, C_restCosts c, up2 (C_restLengths c) j48 f51))
              )
            )
          )
        )
       : Option (Int64 × Int32 × tC)) fun (y8, y9, c10) =>
      F_Ch_matchNonterminal_L9 l1 l2 l3 l4 n c10 y8 y9 (l8 + 1)
    )
set_option maxHeartbeats 4000000 in
set_option maxRecDepth 100000 in
theorem p_Ch_matchNonterminal_L9 {Z : rn_Z} {g1 g2 : Nat} {x : tX} {d : tD}  {u : tU} {t : tT} {a : tG} {b : tG} {m : tM} {o : tO} {E : List rn_C}  {l1 : Int32} {l2 : Int32} {l3 : Int32} {l4 : Int32} {K : rn_K} {z5 : Int64} {z7 : Int32} {cz : tC} (hx : Rn Z M_Ch_matchNonterminal 131 [some (.ref 4), none, some (.int l2), some (.int l3), none, some (.long z5), none, some (.int z7), none, none, none] [] (emb g1 g2 x d cz u t a b m o E) 0 0 K) (n : Nat) : ∀ (c : tC) (l5 : Int64) (l7 : Int32) (l8 : Int32), F_Ch_matchNonterminal_L9 l1 l2 l3 l4 n c l5 l7 l8 = some (z5, z7, cz) → Rn Z M_Ch_matchNonterminal 9 [some (.ref 4), some (.int l1), some (.int l2), some (.int l3), some (.int l4), some (.long l5), none, some (.int l7), some (.int l8), none, none] [] (emb g1 g2 x d c u t a b m o E) 0 0 K := by
  induction n with
  | zero =>
    intro c l5 l7 l8 h
    rw [F_Ch_matchNonterminal_L9] at h
    cases h
  | succ n ih =>
    intro c l5 l7 l8 h
    rw [F_Ch_matchNonterminal_L9] at h
    refine rn_iload (by exact dc_Ch_matchNonterminal 6 rfl) (by exact rfl) ?_
    refine rn_iload (by exact dc_Ch_matchNonterminal 7 rfl) (by exact rfl) ?_
    by_cases c1 : l4 < l8
    · replace h := rn_ifp c1 h
      refine rn_icmp_gt_t 131 (by exact dc_Ch_matchNonterminal 8 rfl) (by exact rfl) c1 ?_
      cases h
      exact rn_weak _ (by repeat (first | exact rn_le_0 | apply rn_le_s | apply rn_le_x)) hx
    · replace h := rn_ifn c1 h
      refine rn_icmp_gt_f 131 (by exact dc_Ch_matchNonterminal 8 rfl) (by exact rfl) c1 ?_
      refine rn_iload_n (by exact dc_Ch_matchNonterminal 9 rfl) (by exact rfl) ?_
      refine rn_iload_n (by exact dc_Ch_matchNonterminal 10 rfl) (by exact rfl) ?_
      refine rn_iload (by exact dc_Ch_matchNonterminal 11 rfl) (by exact rfl) ?_
      obtain ⟨x3, e2, h4⟩ := rn_bind h
      clear h
      refine rn_invS0 (by exact c_Ch_cell e2) is_Ch_49 (by exact ⟨Nat.le_of_ble_eq_true rfl, Nat.le_of_ble_eq_true rfl⟩) (by exact dc_Ch_matchNonterminal 12 rfl) (by exact rfl) (by exact rfl) (by exact Nat.le_of_ble_eq_true rfl) ?_
      show Rn _ _ 23 [some (.ref 4), some (.int l1), some (.int l2), some (.int l3), some (.int l4), some (.long l5), none, some (.int l7), some (.int l8), none, none] [.int x3] (emb g1 g2 x d c u t a b m o E) _ _ _
      refine rn_istore (ls' := [some (.ref 4), some (.int l1), some (.int l2), some (.int l3), some (.int l4), some (.long l5), none, some (.int l7), some (.int l8), some (.int x3), none]) (by exact dc_Ch_matchNonterminal 13 rfl) (by decide) (by exact rfl) ?_
      refine rn_aload_n (by exact dc_Ch_matchNonterminal 14 rfl) (by exact rfl) ?_
      refine rn_getf (v := .ref 6) fd_Ch_15 (by exact dc_Ch_matchNonterminal 15 rfl) (by exact rfl) (by exact rfl) ?_
      refine rn_iload (by exact dc_Ch_matchNonterminal 16 rfl) (by exact rfl) ?_
      obtain ⟨x5, e6, h7⟩ := rn_bind h4
      clear h4
      refine rn_iaload (by exact dc_Ch_matchNonterminal 17 rfl) (by exact rfl) e6 ?_
      refine rn_iconst (v := (-1 : Int32)) (by exact dc_Ch_matchNonterminal 18 rfl) (by decide) ?_
      obtain ⟨⟨y8, y9, c10⟩, e11, h13⟩ := rn_bind h7
      clear h7
      dsimp only at h13
      have jq12 : Rn Z M_Ch_matchNonterminal 125 [some (.ref 4), some (.int l1), some (.int l2), some (.int l3), some (.int l4), some (.long y8), none, some (.int y9), some (.int l8), none, none] [] (emb g1 g2 x d c10 u t a b m o E) 0 0 K := by
        refine rn_iinc (ls' := [some (.ref 4), some (.int l1), some (.int l2), some (.int l3), some (.int l4), some (.long y8), none, some (.int y9), some (.int (l8 + 1)), none, none]) (by exact dc_Ch_matchNonterminal 77 rfl) (by decide) (by exact rfl) (by exact rn_inc_1 _) (by exact rfl) ?_
        refine rn_goto 9 (by exact dc_Ch_matchNonterminal 78 rfl) (by exact rfl) ?_
        exact rn_weak _ (by repeat (first | exact rn_le_0 | apply rn_le_s | apply rn_le_x)) (ih _ _ _ _ h13)
      by_cases c14 : x5 = (-1 : Int32)
      · replace e11 := rn_ifp c14 e11
        refine rn_icmp_eq_t 125 (by exact dc_Ch_matchNonterminal 19 rfl) (by exact rfl) c14 ?_
        cases e11
        exact rn_weak _ (by repeat (first | exact rn_le_0 | apply rn_le_s | apply rn_le_x)) jq12
      · replace e11 := rn_ifn c14 e11
        refine rn_icmp_eq_f 125 (by exact dc_Ch_matchNonterminal 19 rfl) (by exact rfl) c14 ?_
        refine rn_aload_n (by exact dc_Ch_matchNonterminal 20 rfl) (by exact rfl) ?_
        refine rn_getf (v := .ref 17) fd_Ch_43 (by exact dc_Ch_matchNonterminal 21 rfl) (by exact rfl) (by exact rfl) ?_
        refine rn_iload_n (by exact dc_Ch_matchNonterminal 22 rfl) (by exact rfl) ?_
        refine rn_iconst (v := (1 : Int32)) (by exact dc_Ch_matchNonterminal 23 rfl) (by decide) ?_
        refine rn_iadd (by exact dc_Ch_matchNonterminal 24 rfl) ?_
        obtain ⟨j15, e16, h17⟩ := rn_bind e11
        clear e11
        refine rn_aaload (y := 18 + j15) (by exact dc_Ch_matchNonterminal 25 rfl) (by exact rfl) (by exact (aI_some e16).1) (by exact aq_restCosts e16) ?_
        refine rn_iload (by exact dc_Ch_matchNonterminal 26 rfl) (by exact rfl) ?_
        obtain ⟨x18, e19, h20⟩ := rn_bind h17
        clear h17
        refine rn_iaload (by exact dc_Ch_matchNonterminal 27 rfl) (by exact ag_restCosts e16) e19 ?_
        refine rn_iconst (v := (-1 : Int32)) (by exact dc_Ch_matchNonterminal 28 rfl) (by decide) ?_
        by_cases c21 : x18 = (-1 : Int32)
        · replace h20 := rn_ifp c21 h20
          refine rn_icmp_eq_t 125 (by exact dc_Ch_matchNonterminal 29 rfl) (by exact rfl) c21 ?_
          cases h20
          exact rn_weak _ (by repeat (first | exact rn_le_0 | apply rn_le_s | apply rn_le_x)) jq12
        · replace h20 := rn_ifn c21 h20
          refine rn_icmp_eq_f 125 (by exact dc_Ch_matchNonterminal 29 rfl) (by exact rfl) c21 ?_
          refine rn_lload (by exact dc_Ch_matchNonterminal 30 rfl) (by exact rfl) ?_
          refine rn_aload_n (by exact dc_Ch_matchNonterminal 31 rfl) (by exact rfl) ?_
          refine rn_getf (v := .ref 5) fd_Ch_11 (by exact dc_Ch_matchNonterminal 32 rfl) (by exact rfl) (by exact rfl) ?_
          refine rn_iload (by exact dc_Ch_matchNonterminal 33 rfl) (by exact rfl) ?_
          obtain ⟨x22, e23, h24⟩ := rn_bind h20
          clear h20
          refine rn_laload (by exact dc_Ch_matchNonterminal 34 rfl) (by exact rfl) e23 ?_
          refine rn_aload_n (by exact dc_Ch_matchNonterminal 35 rfl) (by exact rfl) ?_
          refine rn_getf (v := .ref 11) fd_Ch_38 (by exact dc_Ch_matchNonterminal 36 rfl) (by exact rfl) (by exact rfl) ?_
          refine rn_iload_n (by exact dc_Ch_matchNonterminal 37 rfl) (by exact rfl) ?_
          refine rn_iconst (v := (1 : Int32)) (by exact dc_Ch_matchNonterminal 38 rfl) (by decide) ?_
          refine rn_iadd (by exact dc_Ch_matchNonterminal 39 rfl) ?_
          obtain ⟨j25, e26, h27⟩ := rn_bind h24
          clear h24
          refine rn_aaload (y := 12 + j25) (by exact dc_Ch_matchNonterminal 40 rfl) (by exact rfl) (by exact (aI_some e26).1) (by exact aq_restSums e26) ?_
          refine rn_iload (by exact dc_Ch_matchNonterminal 41 rfl) (by exact rfl) ?_
          obtain ⟨x28, e29, h30⟩ := rn_bind h27
          clear h27
          refine rn_laload (by exact dc_Ch_matchNonterminal 42 rfl) (by exact ag_restSums e26) e29 ?_
          refine rn_lmul (by exact dc_Ch_matchNonterminal 43 rfl) ?_
          refine rn_ladd (by exact dc_Ch_matchNonterminal 44 rfl) ?_
          refine rn_lstore (ls' := [some (.ref 4), some (.int l1), some (.int l2), some (.int l3), some (.int l4), some (.long (l5 + (x22 * x28))), none, some (.int l7), some (.int l8), some (.int x3), none]) (by exact dc_Ch_matchNonterminal 45 rfl) (by decide) (by exact rfl) ?_
          refine rn_aload_n (by exact dc_Ch_matchNonterminal 46 rfl) (by exact rfl) ?_
          refine rn_getf (v := .ref 6) fd_Ch_15 (by exact dc_Ch_matchNonterminal 47 rfl) (by exact rfl) (by exact rfl) ?_
          refine rn_iload (by exact dc_Ch_matchNonterminal 48 rfl) (by exact rfl) ?_
          obtain ⟨x31, e32, h33⟩ := rn_bind h30
          clear h30
          refine rn_iaload (by exact dc_Ch_matchNonterminal 49 rfl) (by exact rfl) e32 ?_
          refine rn_aload_n (by exact dc_Ch_matchNonterminal 50 rfl) (by exact rfl) ?_
          refine rn_getf (v := .ref 17) fd_Ch_43 (by exact dc_Ch_matchNonterminal 51 rfl) (by exact rfl) (by exact rfl) ?_
          refine rn_iload_n (by exact dc_Ch_matchNonterminal 52 rfl) (by exact rfl) ?_
          refine rn_iconst (v := (1 : Int32)) (by exact dc_Ch_matchNonterminal 53 rfl) (by decide) ?_
          refine rn_iadd (by exact dc_Ch_matchNonterminal 54 rfl) ?_
          obtain ⟨j34, e35, h36⟩ := rn_bind h33
          clear h33
          refine rn_aaload (y := 18 + j34) (by exact dc_Ch_matchNonterminal 55 rfl) (by exact rfl) (by exact (aI_some e35).1) (by exact aq_restCosts e35) ?_
          refine rn_iload (by exact dc_Ch_matchNonterminal 56 rfl) (by exact rfl) ?_
          obtain ⟨x37, e38, h39⟩ := rn_bind h36
          clear h36
          refine rn_iaload (by exact dc_Ch_matchNonterminal 57 rfl) (by exact ag_restCosts e35) e38 ?_
          refine rn_iadd (by exact dc_Ch_matchNonterminal 58 rfl) ?_
          refine rn_istore (ls' := [some (.ref 4), some (.int l1), some (.int l2), some (.int l3), some (.int l4), some (.long (l5 + (x22 * x28))), none, some (.int l7), some (.int l8), some (.int x3), some (.int (x31 + x37))]) (by exact dc_Ch_matchNonterminal 59 rfl) (by decide) (by exact rfl) ?_
          refine rn_iload (by exact dc_Ch_matchNonterminal 60 rfl) (by exact rfl) ?_
          refine rn_iconst (v := (-1 : Int32)) (by exact dc_Ch_matchNonterminal 61 rfl) (by decide) ?_
          by_cases c40 : l7 = (-1 : Int32)
          · replace h39 := rn_ifp c40 h39
            refine rn_icmp_eq_t 109 (by exact dc_Ch_matchNonterminal 62 rfl) (by exact rfl) c40 ?_
            refine rn_iload (by exact dc_Ch_matchNonterminal 66 rfl) (by exact rfl) ?_
            refine rn_istore (ls' := [some (.ref 4), some (.int l1), some (.int l2), some (.int l3), some (.int l4), some (.long (l5 + (x22 * x28))), none, some (.int (x31 + x37)), some (.int l8), some (.int x3), some (.int (x31 + x37))]) (by exact dc_Ch_matchNonterminal 67 rfl) (by decide) (by exact rfl) ?_
            refine rn_aload_n (by exact dc_Ch_matchNonterminal 68 rfl) (by exact rfl) ?_
            refine rn_getf (v := .ref 23) fd_Ch_46 (by exact dc_Ch_matchNonterminal 69 rfl) (by exact rfl) (by exact rfl) ?_
            refine rn_iload_n (by exact dc_Ch_matchNonterminal 70 rfl) (by exact rfl) ?_
            obtain ⟨j41, e42, h43⟩ := rn_bind h39
            clear h39
            refine rn_aaload (y := 24 + j41) (by exact dc_Ch_matchNonterminal 71 rfl) (by exact rfl) (by exact (aI_some e42).1) (by exact aq_restLengths e42) ?_
            refine rn_iload_n (by exact dc_Ch_matchNonterminal 72 rfl) (by exact rfl) ?_
            refine rn_iload (by exact dc_Ch_matchNonterminal 73 rfl) (by exact rfl) ?_
            refine rn_iload_n (by exact dc_Ch_matchNonterminal 74 rfl) (by exact rfl) ?_
            refine rn_isub (by exact dc_Ch_matchNonterminal 75 rfl) ?_
            obtain ⟨f44, e45, h46⟩ := rn_bind h43
            clear h43
            refine rn_iastore (w2 := (emb g1 g2 x d (C_sums c, C_costs c, C_rules c, C_sizes c, C_lengths c, C_letters c, C_textLength c, C_restSums c, C_restCosts c, up2 (C_restLengths c) j41 f44) u t a b m o E)) (by exact dc_Ch_matchNonterminal 76 rfl) (by exact ag_restLengths e42) e45 (by exact as_restLengths e42) ?_
            cases h46
            exact rn_weak _ (by repeat (first | exact rn_le_0 | apply rn_le_s | apply rn_le_x)) jq12
          · replace h39 := rn_ifn c40 h39
            refine rn_icmp_eq_f 109 (by exact dc_Ch_matchNonterminal 62 rfl) (by exact rfl) c40 ?_
            refine rn_iload (by exact dc_Ch_matchNonterminal 63 rfl) (by exact rfl) ?_
            refine rn_iload (by exact dc_Ch_matchNonterminal 64 rfl) (by exact rfl) ?_
            by_cases c47 : l7 ≤ (x31 + x37)
            · replace h39 := rn_ifp c47 h39
              refine rn_icmp_ge_t 125 (by exact dc_Ch_matchNonterminal 65 rfl) (by exact rfl) c47 ?_
              cases h39
              exact rn_weak _ (by repeat (first | exact rn_le_0 | apply rn_le_s | apply rn_le_x)) jq12
            · replace h39 := rn_ifn c47 h39
              refine rn_icmp_ge_f 125 (by exact dc_Ch_matchNonterminal 65 rfl) (by exact rfl) c47 ?_
              refine rn_iload (by exact dc_Ch_matchNonterminal 66 rfl) (by exact rfl) ?_
              refine rn_istore (ls' := [some (.ref 4), some (.int l1), some (.int l2), some (.int l3), some (.int l4), some (.long (l5 + (x22 * x28))), none, some (.int (x31 + x37)), some (.int l8), some (.int x3), some (.int (x31 + x37))]) (by exact dc_Ch_matchNonterminal 67 rfl) (by decide) (by exact rfl) ?_
              refine rn_aload_n (by exact dc_Ch_matchNonterminal 68 rfl) (by exact rfl) ?_
              refine rn_getf (v := .ref 23) fd_Ch_46 (by exact dc_Ch_matchNonterminal 69 rfl) (by exact rfl) (by exact rfl) ?_
              refine rn_iload_n (by exact dc_Ch_matchNonterminal 70 rfl) (by exact rfl) ?_
              obtain ⟨j48, e49, h50⟩ := rn_bind h39
              clear h39
              refine rn_aaload (y := 24 + j48) (by exact dc_Ch_matchNonterminal 71 rfl) (by exact rfl) (by exact (aI_some e49).1) (by exact aq_restLengths e49) ?_
              refine rn_iload_n (by exact dc_Ch_matchNonterminal 72 rfl) (by exact rfl) ?_
              refine rn_iload (by exact dc_Ch_matchNonterminal 73 rfl) (by exact rfl) ?_
              refine rn_iload_n (by exact dc_Ch_matchNonterminal 74 rfl) (by exact rfl) ?_
              refine rn_isub (by exact dc_Ch_matchNonterminal 75 rfl) ?_
              obtain ⟨f51, e52, h53⟩ := rn_bind h50
              clear h50
              refine rn_iastore (w2 := (emb g1 g2 x d (C_sums c, C_costs c, C_rules c, C_sizes c, C_lengths c, C_letters c, C_textLength c, C_restSums c, C_restCosts c, up2 (C_restLengths c) j48 f51) u t a b m o E)) (by exact dc_Ch_matchNonterminal 76 rfl) (by exact ag_restLengths e49) e52 (by exact as_restLengths e49) ?_
              cases h53
              exact rn_weak _ (by repeat (first | exact rn_le_0 | apply rn_le_s | apply rn_le_x)) jq12
def F_Ch_matchNonterminal (c : tC) (v0 : Int32) (v1 : Int32) (v2 : Int32) (v3 : Int32) : Option tC :=
  Option.bind (F_Ch_matchNonterminal_L9 v0 v1 v2 v3 rn_fu c (0 : Int64) (-1 : Int32) v2) fun (y4, y5, c6) =>
  Option.bind (aI 5 v1) fun j7 =>
  Option.bind (aS (C_restSums c6 j7) 9 v2 y4) fun f10 =>
  Option.bind (aI 5 v1) fun j13 =>
  Option.bind (aS (C_restCosts c6 j13) 9 v2 y5) fun f16 =>
  some (C_sums c6, C_costs c6, C_rules c6, C_sizes c6, C_lengths c6, C_letters c6, C_textLength c6, up2 (C_restSums c6) j7 f10, up2 (C_restCosts c6) j13 f16, C_restLengths c6)
set_option maxHeartbeats 4000000 in
set_option maxRecDepth 100000 in
theorem c_Ch_matchNonterminal {Z : rn_Z} {g1 g2 : Nat} {x : tX} {d : tD} {c : tC} {u : tU} {t : tT} {a : tG} {b : tG} {m : tM} {o : tO} {E : List rn_C} {v0 : Int32} {v1 : Int32} {v2 : Int32} {v3 : Int32} {cR : tC} (h : F_Ch_matchNonterminal c v0 v1 v2 v3 = some cR) : Call Z M_Ch_matchNonterminal [.ref 4, .int v0, .int v1, .int v2, .int v3] (emb g1 g2 x d c u t a b m o E) 0 0 none (emb g1 g2 x d cR u t a b m o E) := by
  unfold F_Ch_matchNonterminal at h
  refine rn_call (by decide) 6 (by exact Nat.le_of_ble_eq_true rfl) ?_
  show Rn Z M_Ch_matchNonterminal 0 [some (.ref 4), some (.int v0), some (.int v1), some (.int v2), some (.int v3), none, none, none, none, none, none] [] (emb g1 g2 x d c u t a b m o E) 0 0 _
  refine rn_lconst (v := (0 : Int64)) (by exact dc_Ch_matchNonterminal 0 rfl) (by decide) ?_
  refine rn_lstore (ls' := [some (.ref 4), some (.int v0), some (.int v1), some (.int v2), some (.int v3), some (.long (0 : Int64)), none, none, none, none, none]) (by exact dc_Ch_matchNonterminal 1 rfl) (by decide) (by exact rfl) ?_
  refine rn_iconst (v := (-1 : Int32)) (by exact dc_Ch_matchNonterminal 2 rfl) (by decide) ?_
  refine rn_istore (ls' := [some (.ref 4), some (.int v0), some (.int v1), some (.int v2), some (.int v3), some (.long (0 : Int64)), none, some (.int (-1 : Int32)), none, none, none]) (by exact dc_Ch_matchNonterminal 3 rfl) (by decide) (by exact rfl) ?_
  refine rn_iload_n (by exact dc_Ch_matchNonterminal 4 rfl) (by exact rfl) ?_
  refine rn_istore (ls' := [some (.ref 4), some (.int v0), some (.int v1), some (.int v2), some (.int v3), some (.long (0 : Int64)), none, some (.int (-1 : Int32)), some (.int v2), none, none]) (by exact dc_Ch_matchNonterminal 5 rfl) (by decide) (by exact rfl) ?_
  obtain ⟨⟨y4, y5, c6⟩, e1, h3⟩ := rn_bind h
  clear h
  dsimp only at h3
  have jx2 : Rn Z M_Ch_matchNonterminal 131 [some (.ref 4), none, some (.int v1), some (.int v2), none, some (.long y4), none, some (.int y5), none, none, none] [] (emb g1 g2 x d c6 u t a b m o E) 0 0 (rn_Ret Z none (emb g1 g2 x d cR u t a b m o E)) := by
    refine rn_aload_n (by exact dc_Ch_matchNonterminal 79 rfl) (by exact rfl) ?_
    refine rn_getf (v := .ref 11) fd_Ch_38 (by exact dc_Ch_matchNonterminal 80 rfl) (by exact rfl) (by exact rfl) ?_
    refine rn_iload_n (by exact dc_Ch_matchNonterminal 81 rfl) (by exact rfl) ?_
    obtain ⟨j7, e8, h9⟩ := rn_bind h3
    clear h3
    refine rn_aaload (y := 12 + j7) (by exact dc_Ch_matchNonterminal 82 rfl) (by exact rfl) (by exact (aI_some e8).1) (by exact aq_restSums e8) ?_
    refine rn_iload_n (by exact dc_Ch_matchNonterminal 83 rfl) (by exact rfl) ?_
    refine rn_lload (by exact dc_Ch_matchNonterminal 84 rfl) (by exact rfl) ?_
    obtain ⟨f10, e11, h12⟩ := rn_bind h9
    clear h9
    refine rn_lastore (w2 := (emb g1 g2 x d (C_sums c6, C_costs c6, C_rules c6, C_sizes c6, C_lengths c6, C_letters c6, C_textLength c6, up2 (C_restSums c6) j7 f10, C_restCosts c6, C_restLengths c6) u t a b m o E)) (by exact dc_Ch_matchNonterminal 85 rfl) (by exact ag_restSums e8) e11 (by exact as_restSums e8) ?_
    refine rn_aload_n (by exact dc_Ch_matchNonterminal 86 rfl) (by exact rfl) ?_
    refine rn_getf (v := .ref 17) fd_Ch_43 (by exact dc_Ch_matchNonterminal 87 rfl) (by exact rfl) (by exact rfl) ?_
    refine rn_iload_n (by exact dc_Ch_matchNonterminal 88 rfl) (by exact rfl) ?_
    obtain ⟨j13, e14, h15⟩ := rn_bind h12
    clear h12
    refine rn_aaload (y := 18 + j13) (by exact dc_Ch_matchNonterminal 89 rfl) (by exact rfl) (by exact (aI_some e14).1) (by exact aq_restCosts e14) ?_
    refine rn_iload_n (by exact dc_Ch_matchNonterminal 90 rfl) (by exact rfl) ?_
    refine rn_iload (by exact dc_Ch_matchNonterminal 91 rfl) (by exact rfl) ?_
    obtain ⟨f16, e17, h18⟩ := rn_bind h15
    clear h15
    refine rn_iastore (w2 := (emb g1 g2 x d (C_sums c6, C_costs c6, C_rules c6, C_sizes c6, C_lengths c6, C_letters c6, C_textLength c6, up2 (C_restSums c6) j7 f10, up2 (C_restCosts c6) j13 f16, C_restLengths c6) u t a b m o E)) (by exact dc_Ch_matchNonterminal 92 rfl) (by exact ag_restCosts e14) e17 (by exact as_restCosts e14) ?_
    cases h18
    exact rn_return (by exact dc_Ch_matchNonterminal 93 rfl) (by exact rfl)
  exact rn_weak _ (by repeat (first | exact rn_le_0 | apply rn_le_s | apply rn_le_x)) (p_Ch_matchNonterminal_L9 jx2 _ _ _ _ _ e1)
def F_Ch_matchBody_L11 (l2 : Int32) (l3 : Int32) (l4 : Int32) (l5 : Int32) : Nat → tC → Int32 → Option tC
  | 0, _, _ => none
  | n + 1, c, l6 =>
    if l4 < l6 then (
      some c
    ) else (
      Option.bind (aI 5 l5) fun j2 =>
      Option.bind (
        if ¬ l6 = l4 then (
          some (0 : Int64)
        ) else (
          some (1 : Int64)
        )
       : Option Int64) fun y5 =>
      Option.bind (aS (C_restSums c j2) 9 l6 y5) fun f10 =>
      Option.bind (aI 5 l5) fun j13 =>
      Option.bind (
        if ¬ l6 = l4 then (
          some (-1 : Int32)
        ) else (
          some (0 : Int32)
        )
       : Option Int32) fun y16 =>
      Option.bind (aS (C_restCosts c j13) 9 l6 y16) fun f21 =>
      F_Ch_matchBody_L11 l2 l3 l4 l5 n (C_sums c, C_costs c, C_rules c, C_sizes c, C_lengths c, C_letters c, C_textLength c, up2 (C_restSums c) j2 f10, up2 (C_restCosts c) j13 f21, C_restLengths c) (l6 + 1)
    )
set_option maxHeartbeats 4000000 in
set_option maxRecDepth 100000 in
theorem p_Ch_matchBody_L11 {Z : rn_Z} {g1 g2 : Nat} {x : tX} {d : tD}  {u : tU} {t : tT} {a : tG} {b : tG} {m : tM} {o : tO} {E : List rn_C}  {l2 : Int32} {l3 : Int32} {l4 : Int32} {l5 : Int32} {K : rn_K} {cz : tC} (hx : Rn Z M_Ch_matchBody 68 [some (.ref 4), some (.ref 35), some (.int l2), some (.int l3), some (.int l4), some (.int l5), none, none, none, none] [] (emb g1 g2 x d cz u t a b m o E) 0 0 K) (n : Nat) : ∀ (c : tC) (l6 : Int32), F_Ch_matchBody_L11 l2 l3 l4 l5 n c l6 = some cz → Rn Z M_Ch_matchBody 11 [some (.ref 4), some (.ref 35), some (.int l2), some (.int l3), some (.int l4), some (.int l5), some (.int l6), none, none, none] [] (emb g1 g2 x d c u t a b m o E) 0 0 K := by
  induction n with
  | zero =>
    intro c l6 h
    rw [F_Ch_matchBody_L11] at h
    cases h
  | succ n ih =>
    intro c l6 h
    rw [F_Ch_matchBody_L11] at h
    refine rn_iload (by exact dc_Ch_matchBody 7 rfl) (by exact rfl) ?_
    refine rn_iload (by exact dc_Ch_matchBody 8 rfl) (by exact rfl) ?_
    by_cases c1 : l4 < l6
    · replace h := rn_ifp c1 h
      refine rn_icmp_gt_t 68 (by exact dc_Ch_matchBody 9 rfl) (by exact rfl) c1 ?_
      cases h
      exact rn_weak _ (by repeat (first | exact rn_le_0 | apply rn_le_s | apply rn_le_x)) hx
    · replace h := rn_ifn c1 h
      refine rn_icmp_gt_f 68 (by exact dc_Ch_matchBody 9 rfl) (by exact rfl) c1 ?_
      refine rn_aload_n (by exact dc_Ch_matchBody 10 rfl) (by exact rfl) ?_
      refine rn_getf (v := .ref 11) fd_Ch_38 (by exact dc_Ch_matchBody 11 rfl) (by exact rfl) (by exact rfl) ?_
      refine rn_iload (by exact dc_Ch_matchBody 12 rfl) (by exact rfl) ?_
      obtain ⟨j2, e3, h4⟩ := rn_bind h
      clear h
      refine rn_aaload (y := 12 + j2) (by exact dc_Ch_matchBody 13 rfl) (by exact rfl) (by exact (aI_some e3).1) (by exact aq_restSums e3) ?_
      refine rn_iload (by exact dc_Ch_matchBody 14 rfl) (by exact rfl) ?_
      refine rn_iload (by exact dc_Ch_matchBody 15 rfl) (by exact rfl) ?_
      refine rn_iload (by exact dc_Ch_matchBody 16 rfl) (by exact rfl) ?_
      obtain ⟨y5, e6, h8⟩ := rn_bind h4
      clear h4
      have jq7 : Rn Z M_Ch_matchBody 39 [some (.ref 4), some (.ref 35), some (.int l2), some (.int l3), some (.int l4), some (.int l5), some (.int l6), none, none, none] [.long y5, .int l6, .ref (12 + j2)] (emb g1 g2 x d c u t a b m o E) 0 0 K := by
        obtain ⟨f10, e11, h12⟩ := rn_bind h8
        clear h8
        refine rn_lastore (w2 := (emb g1 g2 x d (C_sums c, C_costs c, C_rules c, C_sizes c, C_lengths c, C_letters c, C_textLength c, up2 (C_restSums c) j2 f10, C_restCosts c, C_restLengths c) u t a b m o E)) (by exact dc_Ch_matchBody 21 rfl) (by exact ag_restSums e3) e11 (by exact as_restSums e3) ?_
        refine rn_aload_n (by exact dc_Ch_matchBody 22 rfl) (by exact rfl) ?_
        refine rn_getf (v := .ref 17) fd_Ch_43 (by exact dc_Ch_matchBody 23 rfl) (by exact rfl) (by exact rfl) ?_
        refine rn_iload (by exact dc_Ch_matchBody 24 rfl) (by exact rfl) ?_
        obtain ⟨j13, e14, h15⟩ := rn_bind h12
        clear h12
        refine rn_aaload (y := 18 + j13) (by exact dc_Ch_matchBody 25 rfl) (by exact rfl) (by exact (aI_some e14).1) (by exact aq_restCosts e14) ?_
        refine rn_iload (by exact dc_Ch_matchBody 26 rfl) (by exact rfl) ?_
        refine rn_iload (by exact dc_Ch_matchBody 27 rfl) (by exact rfl) ?_
        refine rn_iload (by exact dc_Ch_matchBody 28 rfl) (by exact rfl) ?_
        obtain ⟨y16, e17, h19⟩ := rn_bind h15
        clear h15
        have jq18 : Rn Z M_Ch_matchBody 61 [some (.ref 4), some (.ref 35), some (.int l2), some (.int l3), some (.int l4), some (.int l5), some (.int l6), none, none, none] [.int y16, .int l6, .ref (18 + j13)] (emb g1 g2 x d (C_sums c, C_costs c, C_rules c, C_sizes c, C_lengths c, C_letters c, C_textLength c, up2 (C_restSums c) j2 f10, C_restCosts c, C_restLengths c) u t a b m o E) 0 0 K := by
          obtain ⟨f21, e22, h23⟩ := rn_bind h19
          clear h19
          refine rn_iastore (w2 := (emb g1 g2 x d (C_sums c, C_costs c, C_rules c, C_sizes c, C_lengths c, C_letters c, C_textLength c, up2 (C_restSums c) j2 f10, up2 (C_restCosts c) j13 f21, C_restLengths c) u t a b m o E)) (by exact dc_Ch_matchBody 33 rfl) (by exact ag_restCosts e14) e22 (by exact as_restCosts e14) ?_
          refine rn_iinc (ls' := [some (.ref 4), some (.ref 35), some (.int l2), some (.int l3), some (.int l4), some (.int l5), some (.int (l6 + 1)), none, none, none]) (by exact dc_Ch_matchBody 34 rfl) (by decide) (by exact rfl) (by exact rn_inc_1 _) (by exact rfl) ?_
          refine rn_goto 11 (by exact dc_Ch_matchBody 35 rfl) (by exact rfl) ?_
          exact rn_weak _ (by repeat (first | exact rn_le_0 | apply rn_le_s | apply rn_le_x)) (ih _ _ h23)
        by_cases c20 : ¬ l6 = l4
        · replace e17 := rn_ifp c20 e17
          refine rn_icmp_ne_t 60 (by exact dc_Ch_matchBody 29 rfl) (by exact rfl) c20 ?_
          refine rn_iconst (v := (-1 : Int32)) (by exact dc_Ch_matchBody 32 rfl) (by decide) ?_
          cases e17
          exact rn_weak _ (by repeat (first | exact rn_le_0 | apply rn_le_s | apply rn_le_x)) jq18
        · replace e17 := rn_ifn c20 e17
          refine rn_icmp_ne_f 60 (by exact dc_Ch_matchBody 29 rfl) (by exact rfl) (Classical.not_not.mp c20) ?_
          refine rn_iconst (v := (0 : Int32)) (by exact dc_Ch_matchBody 30 rfl) (by decide) ?_
          refine rn_goto 61 (by exact dc_Ch_matchBody 31 rfl) (by exact rfl) ?_
          cases e17
          exact rn_weak _ (by repeat (first | exact rn_le_0 | apply rn_le_s | apply rn_le_x)) jq18
      by_cases c9 : ¬ l6 = l4
      · replace e6 := rn_ifp c9 e6
        refine rn_icmp_ne_t 38 (by exact dc_Ch_matchBody 17 rfl) (by exact rfl) c9 ?_
        refine rn_lconst (v := (0 : Int64)) (by exact dc_Ch_matchBody 20 rfl) (by decide) ?_
        cases e6
        exact rn_weak _ (by repeat (first | exact rn_le_0 | apply rn_le_s | apply rn_le_x)) jq7
      · replace e6 := rn_ifn c9 e6
        refine rn_icmp_ne_f 38 (by exact dc_Ch_matchBody 17 rfl) (by exact rfl) (Classical.not_not.mp c9) ?_
        refine rn_lconst (v := (1 : Int64)) (by exact dc_Ch_matchBody 18 rfl) (by decide) ?_
        refine rn_goto 39 (by exact dc_Ch_matchBody 19 rfl) (by exact rfl) ?_
        cases e6
        exact rn_weak _ (by repeat (first | exact rn_le_0 | apply rn_le_s | apply rn_le_x)) jq7
def F_Ch_matchBody_L104 (l2 : Int32) (l3 : Int32) (l4 : Int32) (l6 : Int32) (l7 : Int32) (l8 : Int32) : Nat → tC → Int32 → Option tC
  | 0, _, _ => none
  | n + 1, c, l9 =>
    if l8 < l9 then (
      some c
    ) else (
      Option.bind (F_Gr_isNonterminal  l7) fun x3 =>
      Option.bind (
        if x3 = 0 then (
          Option.bind (F_Ch_matchTerminal c l7 l6 l9 l4) fun c11 =>
          some c11
        ) else (
          Option.bind (F_Ch_matchNonterminal c l7 l6 l9 l4) fun c14 =>
          some c14
        )
       : Option tC) fun c5 =>
      F_Ch_matchBody_L104 l2 l3 l4 l6 l7 l8 n c5 (l9 + 1)
    )
set_option maxHeartbeats 4000000 in
set_option maxRecDepth 100000 in
theorem p_Ch_matchBody_L104 {Z : rn_Z} {g1 g2 : Nat} {x : tX} {d : tD}  {u : tU} {t : tT} {a : tG} {b : tG} {m : tM} {o : tO} {E : List rn_C}  {l2 : Int32} {l3 : Int32} {l4 : Int32} {l6 : Int32} {l7 : Int32} {l8 : Int32} {K : rn_K} {cz : tC} (hx : Rn Z M_Ch_matchBody 152 [some (.ref 4), some (.ref 35), some (.int l2), some (.int l3), some (.int l4), none, some (.int l6), none, none, none] [] (emb g1 g2 x d cz u t a b m o E) 0 0 K) (n : Nat) : ∀ (c : tC) (l9 : Int32), F_Ch_matchBody_L104 l2 l3 l4 l6 l7 l8 n c l9 = some cz → Rn Z M_Ch_matchBody 104 [some (.ref 4), some (.ref 35), some (.int l2), some (.int l3), some (.int l4), none, some (.int l6), some (.int l7), some (.int l8), some (.int l9)] [] (emb g1 g2 x d c u t a b m o E) 0 0 K := by
  induction n with
  | zero =>
    intro c l9 h
    rw [F_Ch_matchBody_L104] at h
    cases h
  | succ n ih =>
    intro c l9 h
    rw [F_Ch_matchBody_L104] at h
    refine rn_iload (by exact dc_Ch_matchBody 55 rfl) (by exact rfl) ?_
    refine rn_iload (by exact dc_Ch_matchBody 56 rfl) (by exact rfl) ?_
    by_cases c1 : l8 < l9
    · replace h := rn_ifp c1 h
      refine rn_icmp_gt_t 152 (by exact dc_Ch_matchBody 57 rfl) (by exact rfl) c1 ?_
      cases h
      exact rn_weak _ (by repeat (first | exact rn_le_0 | apply rn_le_s | apply rn_le_x)) hx
    · replace h := rn_ifn c1 h
      refine rn_icmp_gt_f 152 (by exact dc_Ch_matchBody 57 rfl) (by exact rfl) c1 ?_
      refine rn_iload (by exact dc_Ch_matchBody 58 rfl) (by exact rfl) ?_
      obtain ⟨x3, e2, h4⟩ := rn_bind h
      clear h
      refine rn_invS0 (by exact c_Gr_isNonterminal e2) is_Ch_100 (by exact ⟨Nat.le_of_ble_eq_true rfl, Nat.le_of_ble_eq_true rfl⟩) (by exact dc_Ch_matchBody 59 rfl) (by exact rfl) (by exact rfl) (by exact Nat.le_of_ble_eq_true rfl) ?_
      show Rn _ _ 116 [some (.ref 4), some (.ref 35), some (.int l2), some (.int l3), some (.int l4), none, some (.int l6), some (.int l7), some (.int l8), some (.int l9)] [.int x3] (emb g1 g2 x d c u t a b m o E) _ _ _
      obtain ⟨c5, e6, h8⟩ := rn_bind h4
      clear h4
      have jq7 : Rn Z M_Ch_matchBody 146 [some (.ref 4), some (.ref 35), some (.int l2), some (.int l3), some (.int l4), none, some (.int l6), some (.int l7), some (.int l8), some (.int l9)] [] (emb g1 g2 x d c5 u t a b m o E) 0 0 K := by
        refine rn_iinc (ls' := [some (.ref 4), some (.ref 35), some (.int l2), some (.int l3), some (.int l4), none, some (.int l6), some (.int l7), some (.int l8), some (.int (l9 + 1))]) (by exact dc_Ch_matchBody 74 rfl) (by decide) (by exact rfl) (by exact rn_inc_1 _) (by exact rfl) ?_
        refine rn_goto 104 (by exact dc_Ch_matchBody 75 rfl) (by exact rfl) ?_
        exact rn_weak _ (by repeat (first | exact rn_le_0 | apply rn_le_s | apply rn_le_x)) (ih _ _ h8)
      by_cases c9 : x3 = 0
      · replace e6 := rn_ifp c9 e6
        refine rn_if_eq_t 134 (by exact dc_Ch_matchBody 60 rfl) (by exact rfl) c9 ?_
        refine rn_aload_n (by exact dc_Ch_matchBody 68 rfl) (by exact rfl) ?_
        refine rn_iload (by exact dc_Ch_matchBody 69 rfl) (by exact rfl) ?_
        refine rn_iload (by exact dc_Ch_matchBody 70 rfl) (by exact rfl) ?_
        refine rn_iload (by exact dc_Ch_matchBody 71 rfl) (by exact rfl) ?_
        refine rn_iload (by exact dc_Ch_matchBody 72 rfl) (by exact rfl) ?_
        obtain ⟨c11, e10, h12⟩ := rn_bind e6
        clear e6
        refine rn_invV0 (by exact c_Ch_matchTerminal e10) iv_Ch_108 (by exact ⟨Nat.le_of_ble_eq_true rfl, Nat.le_of_ble_eq_true rfl⟩) (by exact dc_Ch_matchBody 73 rfl) (by exact rfl) (by exact rfl) (by exact rfl) (by exact Nat.le_of_ble_eq_true rfl) ?_
        show Rn _ _ 146 [some (.ref 4), some (.ref 35), some (.int l2), some (.int l3), some (.int l4), none, some (.int l6), some (.int l7), some (.int l8), some (.int l9)] [] (emb g1 g2 x d c11 u t a b m o E) _ _ _
        cases h12
        exact rn_weak _ (by repeat (first | exact rn_le_0 | apply rn_le_s | apply rn_le_x)) jq7
      · replace e6 := rn_ifn c9 e6
        refine rn_if_eq_f 134 (by exact dc_Ch_matchBody 60 rfl) (by exact rfl) c9 ?_
        refine rn_aload_n (by exact dc_Ch_matchBody 61 rfl) (by exact rfl) ?_
        refine rn_iload (by exact dc_Ch_matchBody 62 rfl) (by exact rfl) ?_
        refine rn_iload (by exact dc_Ch_matchBody 63 rfl) (by exact rfl) ?_
        refine rn_iload (by exact dc_Ch_matchBody 64 rfl) (by exact rfl) ?_
        refine rn_iload (by exact dc_Ch_matchBody 65 rfl) (by exact rfl) ?_
        obtain ⟨c14, e13, h15⟩ := rn_bind e6
        clear e6
        refine rn_invV0 (by exact c_Ch_matchNonterminal e13) iv_Ch_104 (by exact ⟨Nat.le_of_ble_eq_true rfl, Nat.le_of_ble_eq_true rfl⟩) (by exact dc_Ch_matchBody 66 rfl) (by exact rfl) (by exact rfl) (by exact rfl) (by exact Nat.le_of_ble_eq_true rfl) ?_
        show Rn _ _ 131 [some (.ref 4), some (.ref 35), some (.int l2), some (.int l3), some (.int l4), none, some (.int l6), some (.int l7), some (.int l8), some (.int l9)] [] (emb g1 g2 x d c14 u t a b m o E) _ _ _
        refine rn_goto 146 (by exact dc_Ch_matchBody 67 rfl) (by exact rfl) ?_
        cases h15
        exact rn_weak _ (by repeat (first | exact rn_le_0 | apply rn_le_s | apply rn_le_x)) jq7
def F_Ch_matchBody_L74 (a : tG) (l2 : Int32) (l3 : Int32) (l4 : Int32) : Nat → tC → Int32 → Option tC
  | 0, _, _ => none
  | n + 1, c, l6 =>
    if l6 < 0 then (
      some c
    ) else (
      Option.bind (F_Gr_symbol a l2 l6) fun x3 =>
      Option.bind (
        if ¬ l6 = 0 then (
          some (l4 : Int32)
        ) else (
          some (l3 : Int32)
        )
       : Option Int32) fun y5 =>
      Option.bind (F_Ch_matchBody_L104 l2 l3 l4 l6 x3 y5 rn_fu c l3) fun c13 =>
      F_Ch_matchBody_L74 a l2 l3 l4 n c13 (l6 + (-1))
    )
set_option maxHeartbeats 4000000 in
set_option maxRecDepth 100000 in
theorem p_Ch_matchBody_L74 {Z : rn_Z} {g1 g2 : Nat} {x : tX} {d : tD}  {u : tU} {t : tT} {a : tG} {b : tG} {m : tM} {o : tO} {E : List rn_C}  {l2 : Int32} {l3 : Int32} {l4 : Int32} {K : rn_K} {cz : tC} (hx : Rn Z M_Ch_matchBody 158 [none, none, none, none, none, none, none, none, none, none] [] (emb g1 g2 x d cz u t a b m o E) 0 0 K) (n : Nat) : ∀ (c : tC) (l6 : Int32), F_Ch_matchBody_L74 a l2 l3 l4 n c l6 = some cz → Rn Z M_Ch_matchBody 74 [some (.ref 4), some (.ref 35), some (.int l2), some (.int l3), some (.int l4), none, some (.int l6), none, none, none] [] (emb g1 g2 x d c u t a b m o E) 0 0 K := by
  induction n with
  | zero =>
    intro c l6 h
    rw [F_Ch_matchBody_L74] at h
    cases h
  | succ n ih =>
    intro c l6 h
    rw [F_Ch_matchBody_L74] at h
    refine rn_iload (by exact dc_Ch_matchBody 40 rfl) (by exact rfl) ?_
    by_cases c1 : l6 < 0
    · replace h := rn_ifp c1 h
      refine rn_if_lt_t 158 (by exact dc_Ch_matchBody 41 rfl) (by exact rfl) c1 ?_
      cases h
      exact rn_weak _ (by repeat (first | exact rn_le_0 | apply rn_le_s | apply rn_le_x)) hx
    · replace h := rn_ifn c1 h
      refine rn_if_lt_f 158 (by exact dc_Ch_matchBody 41 rfl) (by exact rfl) c1 ?_
      refine rn_aload_n (by exact dc_Ch_matchBody 42 rfl) (by exact rfl) ?_
      refine rn_iload_n (by exact dc_Ch_matchBody 43 rfl) (by exact rfl) ?_
      refine rn_iload (by exact dc_Ch_matchBody 44 rfl) (by exact rfl) ?_
      obtain ⟨x3, e2, h4⟩ := rn_bind h
      clear h
      refine rn_invV0 (by exact c_Gr_symbol e2) iv_Ch_96 (by exact ⟨Nat.le_of_ble_eq_true rfl, Nat.le_of_ble_eq_true rfl⟩) (by exact dc_Ch_matchBody 45 rfl) (by exact rfl) (by exact rfl) (by exact rfl) (by exact Nat.le_of_ble_eq_true rfl) ?_
      show Rn _ _ 86 [some (.ref 4), some (.ref 35), some (.int l2), some (.int l3), some (.int l4), none, some (.int l6), none, none, none] [.int x3] (emb g1 g2 x d c u t a b m o E) _ _ _
      refine rn_istore (ls' := [some (.ref 4), some (.ref 35), some (.int l2), some (.int l3), some (.int l4), none, some (.int l6), some (.int x3), none, none]) (by exact dc_Ch_matchBody 46 rfl) (by decide) (by exact rfl) ?_
      refine rn_iload (by exact dc_Ch_matchBody 47 rfl) (by exact rfl) ?_
      obtain ⟨y5, e6, h8⟩ := rn_bind h4
      clear h4
      have jq7 : Rn Z M_Ch_matchBody 99 [some (.ref 4), some (.ref 35), some (.int l2), some (.int l3), some (.int l4), none, some (.int l6), some (.int x3), none, none] [.int y5] (emb g1 g2 x d c u t a b m o E) 0 0 K := by
        refine rn_istore (ls' := [some (.ref 4), some (.ref 35), some (.int l2), some (.int l3), some (.int l4), none, some (.int l6), some (.int x3), some (.int y5), none]) (by exact dc_Ch_matchBody 52 rfl) (by decide) (by exact rfl) ?_
        refine rn_iload_n (by exact dc_Ch_matchBody 53 rfl) (by exact rfl) ?_
        refine rn_istore (ls' := [some (.ref 4), some (.ref 35), some (.int l2), some (.int l3), some (.int l4), none, some (.int l6), some (.int x3), some (.int y5), some (.int l3)]) (by exact dc_Ch_matchBody 54 rfl) (by decide) (by exact rfl) ?_
        obtain ⟨c13, e10, h12⟩ := rn_bind h8
        clear h8
        have jx11 : Rn Z M_Ch_matchBody 152 [some (.ref 4), some (.ref 35), some (.int l2), some (.int l3), some (.int l4), none, some (.int l6), none, none, none] [] (emb g1 g2 x d c13 u t a b m o E) 0 0 K := by
          refine rn_iinc (ls' := [some (.ref 4), some (.ref 35), some (.int l2), some (.int l3), some (.int l4), none, some (.int (l6 + (-1))), none, none, none]) (by exact dc_Ch_matchBody 76 rfl) (by decide) (by exact rfl) (by exact rn_inc_m1 _) (by exact rfl) ?_
          refine rn_goto 74 (by exact dc_Ch_matchBody 77 rfl) (by exact rfl) ?_
          exact rn_weak _ (by repeat (first | exact rn_le_0 | apply rn_le_s | apply rn_le_x)) (ih _ _ h12)
        exact rn_weak _ (by repeat (first | exact rn_le_0 | apply rn_le_s | apply rn_le_x)) (p_Ch_matchBody_L104 jx11 _ _ _ e10)
      by_cases c9 : ¬ l6 = 0
      · replace e6 := rn_ifp c9 e6
        refine rn_if_ne_t 97 (by exact dc_Ch_matchBody 48 rfl) (by exact rfl) c9 ?_
        refine rn_iload (by exact dc_Ch_matchBody 51 rfl) (by exact rfl) ?_
        cases e6
        exact rn_weak _ (by repeat (first | exact rn_le_0 | apply rn_le_s | apply rn_le_x)) jq7
      · replace e6 := rn_ifn c9 e6
        refine rn_if_ne_f 97 (by exact dc_Ch_matchBody 48 rfl) (by exact rfl) (Classical.not_not.mp c9) ?_
        refine rn_iload_n (by exact dc_Ch_matchBody 49 rfl) (by exact rfl) ?_
        refine rn_goto 99 (by exact dc_Ch_matchBody 50 rfl) (by exact rfl) ?_
        cases e6
        exact rn_weak _ (by repeat (first | exact rn_le_0 | apply rn_le_s | apply rn_le_x)) jq7
def F_Ch_matchBody (c : tC) (a : tG) (v0 : Int32) (v1 : Int32) (v2 : Int32) : Option tC :=
  Option.bind (aG (G_bodyLengths a) 12 v0) fun x1 =>
  Option.bind (F_Ch_matchBody_L11 v0 v1 v2 x1 rn_fu c v1) fun c7 =>
  Option.bind (F_Ch_matchBody_L74 a v0 v1 v2 rn_fu c7 (x1 - (1 : Int32))) fun c11 =>
  some c11
set_option maxHeartbeats 4000000 in
set_option maxRecDepth 100000 in
theorem c_Ch_matchBody {Z : rn_Z} {g1 g2 : Nat} {x : tX} {d : tD} {c : tC} {u : tU} {t : tT} {a : tG} {b : tG} {m : tM} {o : tO} {E : List rn_C} {v0 : Int32} {v1 : Int32} {v2 : Int32} {cR : tC} (h : F_Ch_matchBody c a v0 v1 v2 = some cR) : Call Z M_Ch_matchBody [.ref 4, .ref 35, .int v0, .int v1, .int v2] (emb g1 g2 x d c u t a b m o E) 0 0 none (emb g1 g2 x d cR u t a b m o E) := by
  unfold F_Ch_matchBody at h
  refine rn_call (by decide) 5 (by exact Nat.le_of_ble_eq_true rfl) ?_
  show Rn Z M_Ch_matchBody 0 [some (.ref 4), some (.ref 35), some (.int v0), some (.int v1), some (.int v2), none, none, none, none, none] [] (emb g1 g2 x d c u t a b m o E) 0 0 _
  refine rn_aload_n (by exact dc_Ch_matchBody 0 rfl) (by exact rfl) ?_
  refine rn_getf (v := .ref 38) fd_Ch_93 (by exact dc_Ch_matchBody 1 rfl) (by exact rfl) (by exact rfl) ?_
  refine rn_iload_n (by exact dc_Ch_matchBody 2 rfl) (by exact rfl) ?_
  obtain ⟨x1, e2, h3⟩ := rn_bind h
  clear h
  refine rn_iaload (by exact dc_Ch_matchBody 3 rfl) (by exact rfl) e2 ?_
  refine rn_istore (ls' := [some (.ref 4), some (.ref 35), some (.int v0), some (.int v1), some (.int v2), some (.int x1), none, none, none, none]) (by exact dc_Ch_matchBody 4 rfl) (by decide) (by exact rfl) ?_
  refine rn_iload_n (by exact dc_Ch_matchBody 5 rfl) (by exact rfl) ?_
  refine rn_istore (ls' := [some (.ref 4), some (.ref 35), some (.int v0), some (.int v1), some (.int v2), some (.int x1), some (.int v1), none, none, none]) (by exact dc_Ch_matchBody 6 rfl) (by decide) (by exact rfl) ?_
  obtain ⟨c7, e4, h6⟩ := rn_bind h3
  clear h3
  have jx5 : Rn Z M_Ch_matchBody 68 [some (.ref 4), some (.ref 35), some (.int v0), some (.int v1), some (.int v2), some (.int x1), none, none, none, none] [] (emb g1 g2 x d c7 u t a b m o E) 0 0 (rn_Ret Z none (emb g1 g2 x d cR u t a b m o E)) := by
    refine rn_iload (by exact dc_Ch_matchBody 36 rfl) (by exact rfl) ?_
    refine rn_iconst (v := (1 : Int32)) (by exact dc_Ch_matchBody 37 rfl) (by decide) ?_
    refine rn_isub (by exact dc_Ch_matchBody 38 rfl) ?_
    refine rn_istore (ls' := [some (.ref 4), some (.ref 35), some (.int v0), some (.int v1), some (.int v2), some (.int x1), some (.int (x1 - (1 : Int32))), none, none, none]) (by exact dc_Ch_matchBody 39 rfl) (by decide) (by exact rfl) ?_
    obtain ⟨c11, e8, h10⟩ := rn_bind h6
    clear h6
    have jx9 : Rn Z M_Ch_matchBody 158 [none, none, none, none, none, none, none, none, none, none] [] (emb g1 g2 x d c11 u t a b m o E) 0 0 (rn_Ret Z none (emb g1 g2 x d cR u t a b m o E)) := by
      cases h10
      exact rn_return (by exact dc_Ch_matchBody 78 rfl) (by exact rfl)
    exact rn_weak _ (by repeat (first | exact rn_le_0 | apply rn_le_s | apply rn_le_x)) (p_Ch_matchBody_L74 jx9 _ _ _ e8)
  exact rn_weak _ (by repeat (first | exact rn_le_0 | apply rn_le_s | apply rn_le_x)) (p_Ch_matchBody_L11 jx5 _ _ _ e4)
end
section
def F_Ch_keepBody_L13 (c : tC) (a : tG) (l2 : Int32) (l3 : Int32) : Nat → Int32 → Int32 → Int32 → Int32 → Option (Int32 × Int32)
  | 0, _, _, _, _ => none
  | n + 1, l5, l6, l7, l8 =>
    Option.bind (aG (G_bodyLengths a) 12 l2) fun x1 =>
    if x1 ≤ l8 then (
      some (l6, l7)
    ) else (
      Option.bind (aI 4 l8) fun j5 =>
      Option.bind (aG (C_restLengths c j5) 9 l5) fun x8 =>
      Option.bind (F_Gr_symbol a l2 l8) fun x12 =>
      Option.bind (F_Gr_isNonterminal  x12) fun x15 =>
      Option.bind (
        if x15 = 0 then (
          some (l6 : Int32)
        ) else (
          Option.bind (F_Ch_cell  x12 l5 (l5 + x8)) fun x23 =>
          Option.bind (aG (C_sizes c) 390 x23) fun x25 =>
          some (l6 + x25 : Int32)
        )
       : Option Int32) fun y17 =>
      F_Ch_keepBody_L13 c a l2 l3 n (l5 + x8) y17 (l7 ||| (x8 <<< (((4 : Int32) * l8) &&& 31))) (l8 + 1)
    )
set_option maxHeartbeats 4000000 in
set_option maxRecDepth 100000 in
theorem p_Ch_keepBody_L13 {Z : rn_Z} {g1 g2 : Nat} {x : tX} {d : tD} {c : tC} {u : tU} {t : tT} {a : tG} {b : tG} {m : tM} {o : tO} {E : List rn_C}  {l2 : Int32} {l3 : Int32} {K : rn_K} {z6 : Int32} {z7 : Int32} (hx : Rn Z M_Ch_keepBody 100 [some (.ref 4), none, none, some (.int l3), none, none, some (.int z6), some (.int z7), none, none, none] [] (emb g1 g2 x d c u t a b m o E) 0 0 K) (n : Nat) : ∀ (l5 : Int32) (l6 : Int32) (l7 : Int32) (l8 : Int32), F_Ch_keepBody_L13 c a l2 l3 n l5 l6 l7 l8 = some (z6, z7) → Rn Z M_Ch_keepBody 13 [some (.ref 4), some (.ref 35), some (.int l2), some (.int l3), none, some (.int l5), some (.int l6), some (.int l7), some (.int l8), none, none] [] (emb g1 g2 x d c u t a b m o E) 0 0 K := by
  induction n with
  | zero =>
    intro l5 l6 l7 l8 h
    rw [F_Ch_keepBody_L13] at h
    cases h
  | succ n ih =>
    intro l5 l6 l7 l8 h
    rw [F_Ch_keepBody_L13] at h
    refine rn_iload (by exact dc_Ch_keepBody 8 rfl) (by exact rfl) ?_
    refine rn_aload_n (by exact dc_Ch_keepBody 9 rfl) (by exact rfl) ?_
    refine rn_getf (v := .ref 38) fd_Ch_93 (by exact dc_Ch_keepBody 10 rfl) (by exact rfl) (by exact rfl) ?_
    refine rn_iload_n (by exact dc_Ch_keepBody 11 rfl) (by exact rfl) ?_
    obtain ⟨x1, e2, h3⟩ := rn_bind h
    clear h
    refine rn_iaload (by exact dc_Ch_keepBody 12 rfl) (by exact rfl) e2 ?_
    by_cases c4 : x1 ≤ l8
    · replace h3 := rn_ifp c4 h3
      refine rn_icmp_ge_t 100 (by exact dc_Ch_keepBody 13 rfl) (by exact rfl) c4 ?_
      cases h3
      exact rn_weak _ (by repeat (first | exact rn_le_0 | apply rn_le_s | apply rn_le_x)) hx
    · replace h3 := rn_ifn c4 h3
      refine rn_icmp_ge_f 100 (by exact dc_Ch_keepBody 13 rfl) (by exact rfl) c4 ?_
      refine rn_aload_n (by exact dc_Ch_keepBody 14 rfl) (by exact rfl) ?_
      refine rn_getf (v := .ref 23) fd_Ch_46 (by exact dc_Ch_keepBody 15 rfl) (by exact rfl) (by exact rfl) ?_
      refine rn_iload (by exact dc_Ch_keepBody 16 rfl) (by exact rfl) ?_
      obtain ⟨j5, e6, h7⟩ := rn_bind h3
      clear h3
      refine rn_aaload (y := 24 + j5) (by exact dc_Ch_keepBody 17 rfl) (by exact rfl) (by exact (aI_some e6).1) (by exact aq_restLengths e6) ?_
      refine rn_iload (by exact dc_Ch_keepBody 18 rfl) (by exact rfl) ?_
      obtain ⟨x8, e9, h10⟩ := rn_bind h7
      clear h7
      refine rn_iaload (by exact dc_Ch_keepBody 19 rfl) (by exact ag_restLengths e6) e9 ?_
      refine rn_istore (ls' := [some (.ref 4), some (.ref 35), some (.int l2), some (.int l3), none, some (.int l5), some (.int l6), some (.int l7), some (.int l8), some (.int x8), none]) (by exact dc_Ch_keepBody 20 rfl) (by decide) (by exact rfl) ?_
      refine rn_aload_n (by exact dc_Ch_keepBody 21 rfl) (by exact rfl) ?_
      refine rn_iload_n (by exact dc_Ch_keepBody 22 rfl) (by exact rfl) ?_
      refine rn_iload (by exact dc_Ch_keepBody 23 rfl) (by exact rfl) ?_
      obtain ⟨x12, e11, h13⟩ := rn_bind h10
      clear h10
      refine rn_invV0 (by exact c_Gr_symbol e11) iv_Ch_96 (by exact ⟨Nat.le_of_ble_eq_true rfl, Nat.le_of_ble_eq_true rfl⟩) (by exact dc_Ch_keepBody 24 rfl) (by exact rfl) (by exact rfl) (by exact rfl) (by exact Nat.le_of_ble_eq_true rfl) ?_
      show Rn _ _ 43 [some (.ref 4), some (.ref 35), some (.int l2), some (.int l3), none, some (.int l5), some (.int l6), some (.int l7), some (.int l8), some (.int x8), none] [.int x12] (emb g1 g2 x d c u t a b m o E) _ _ _
      refine rn_istore (ls' := [some (.ref 4), some (.ref 35), some (.int l2), some (.int l3), none, some (.int l5), some (.int l6), some (.int l7), some (.int l8), some (.int x8), some (.int x12)]) (by exact dc_Ch_keepBody 25 rfl) (by decide) (by exact rfl) ?_
      refine rn_iload (by exact dc_Ch_keepBody 26 rfl) (by exact rfl) ?_
      obtain ⟨x15, e14, h16⟩ := rn_bind h13
      clear h13
      refine rn_invS0 (by exact c_Gr_isNonterminal e14) is_Ch_100 (by exact ⟨Nat.le_of_ble_eq_true rfl, Nat.le_of_ble_eq_true rfl⟩) (by exact dc_Ch_keepBody 27 rfl) (by exact rfl) (by exact rfl) (by exact Nat.le_of_ble_eq_true rfl) ?_
      show Rn _ _ 50 [some (.ref 4), some (.ref 35), some (.int l2), some (.int l3), none, some (.int l5), some (.int l6), some (.int l7), some (.int l8), some (.int x8), some (.int x12)] [.int x15] (emb g1 g2 x d c u t a b m o E) _ _ _
      obtain ⟨y17, e18, h20⟩ := rn_bind h16
      clear h16
      have jq19 : Rn Z M_Ch_keepBody 75 [some (.ref 4), some (.ref 35), some (.int l2), some (.int l3), none, some (.int l5), some (.int y17), some (.int l7), some (.int l8), some (.int x8), none] [] (emb g1 g2 x d c u t a b m o E) 0 0 K := by
        refine rn_iload (by exact dc_Ch_keepBody 41 rfl) (by exact rfl) ?_
        refine rn_iload (by exact dc_Ch_keepBody 42 rfl) (by exact rfl) ?_
        refine rn_iconst (v := (4 : Int32)) (by exact dc_Ch_keepBody 43 rfl) (by decide) ?_
        refine rn_iload (by exact dc_Ch_keepBody 44 rfl) (by exact rfl) ?_
        refine rn_imul (by exact dc_Ch_keepBody 45 rfl) ?_
        refine rn_ishl (by exact dc_Ch_keepBody 46 rfl) ?_
        refine rn_ior (by exact dc_Ch_keepBody 47 rfl) ?_
        refine rn_istore (ls' := [some (.ref 4), some (.ref 35), some (.int l2), some (.int l3), none, some (.int l5), some (.int y17), some (.int (l7 ||| (x8 <<< (((4 : Int32) * l8) &&& 31)))), some (.int l8), some (.int x8), none]) (by exact dc_Ch_keepBody 48 rfl) (by decide) (by exact rfl) ?_
        refine rn_iload (by exact dc_Ch_keepBody 49 rfl) (by exact rfl) ?_
        refine rn_iload (by exact dc_Ch_keepBody 50 rfl) (by exact rfl) ?_
        refine rn_iadd (by exact dc_Ch_keepBody 51 rfl) ?_
        refine rn_istore (ls' := [some (.ref 4), some (.ref 35), some (.int l2), some (.int l3), none, some (.int (l5 + x8)), some (.int y17), some (.int (l7 ||| (x8 <<< (((4 : Int32) * l8) &&& 31)))), some (.int l8), some (.int x8), none]) (by exact dc_Ch_keepBody 52 rfl) (by decide) (by exact rfl) ?_
        refine rn_iinc (ls' := [some (.ref 4), some (.ref 35), some (.int l2), some (.int l3), none, some (.int (l5 + x8)), some (.int y17), some (.int (l7 ||| (x8 <<< (((4 : Int32) * l8) &&& 31)))), some (.int (l8 + 1)), some (.int x8), none]) (by exact dc_Ch_keepBody 53 rfl) (by decide) (by exact rfl) (by exact rn_inc_1 _) (by exact rfl) ?_
        refine rn_goto 13 (by exact dc_Ch_keepBody 54 rfl) (by exact rfl) ?_
        exact rn_weak _ (by repeat (first | exact rn_le_0 | apply rn_le_s | apply rn_le_x)) (ih _ _ _ _ h20)
      by_cases c21 : x15 = 0
      · replace e18 := rn_ifp c21 e18
        refine rn_if_eq_t 75 (by exact dc_Ch_keepBody 28 rfl) (by exact rfl) c21 ?_
        cases e18
        exact rn_weak _ (by repeat (first | exact rn_le_0 | apply rn_le_s | apply rn_le_x)) jq19
      · replace e18 := rn_ifn c21 e18
        refine rn_if_eq_f 75 (by exact dc_Ch_keepBody 28 rfl) (by exact rfl) c21 ?_
        refine rn_iload (by exact dc_Ch_keepBody 29 rfl) (by exact rfl) ?_
        refine rn_aload_n (by exact dc_Ch_keepBody 30 rfl) (by exact rfl) ?_
        refine rn_getf (v := .ref 8) fd_Ch_22 (by exact dc_Ch_keepBody 31 rfl) (by exact rfl) (by exact rfl) ?_
        refine rn_iload (by exact dc_Ch_keepBody 32 rfl) (by exact rfl) ?_
        refine rn_iload (by exact dc_Ch_keepBody 33 rfl) (by exact rfl) ?_
        refine rn_iload (by exact dc_Ch_keepBody 34 rfl) (by exact rfl) ?_
        refine rn_iload (by exact dc_Ch_keepBody 35 rfl) (by exact rfl) ?_
        refine rn_iadd (by exact dc_Ch_keepBody 36 rfl) ?_
        obtain ⟨x23, e22, h24⟩ := rn_bind e18
        clear e18
        refine rn_invS0 (by exact c_Ch_cell e22) is_Ch_49 (by exact ⟨Nat.le_of_ble_eq_true rfl, Nat.le_of_ble_eq_true rfl⟩) (by exact dc_Ch_keepBody 37 rfl) (by exact rfl) (by exact rfl) (by exact Nat.le_of_ble_eq_true rfl) ?_
        show Rn _ _ 71 [some (.ref 4), some (.ref 35), some (.int l2), some (.int l3), none, some (.int l5), some (.int l6), some (.int l7), some (.int l8), some (.int x8), some (.int x12)] [.int x23, .ref 8, .int l6] (emb g1 g2 x d c u t a b m o E) _ _ _
        obtain ⟨x25, e26, h27⟩ := rn_bind h24
        clear h24
        refine rn_iaload (by exact dc_Ch_keepBody 38 rfl) (by exact rfl) e26 ?_
        refine rn_iadd (by exact dc_Ch_keepBody 39 rfl) ?_
        refine rn_istore (ls' := [some (.ref 4), some (.ref 35), some (.int l2), some (.int l3), none, some (.int l5), some (.int (l6 + x25)), some (.int l7), some (.int l8), some (.int x8), some (.int x12)]) (by exact dc_Ch_keepBody 40 rfl) (by decide) (by exact rfl) ?_
        cases h27
        exact rn_weak _ (by repeat (first | exact rn_le_0 | apply rn_le_s | apply rn_le_x)) jq19
def F_Ch_keepBody (c : tC) (a : tG) (v0 : Int32) (v1 : Int32) (v2 : Int32) : Option tC :=
  Option.bind (F_Ch_keepBody_L13 c a v0 v1 rn_fu v2 (1 : Int32) (0 : Int32) (0 : Int32)) fun (y4, y5) =>
  Option.bind (aS (C_sizes c) 390 v1 y4) fun f6 =>
  Option.bind (aS (C_lengths c) 390 v1 y5) fun f9 =>
  some (C_sums c, C_costs c, C_rules c, f6, f9, C_letters c, C_textLength c, C_restSums c, C_restCosts c, C_restLengths c)
set_option maxHeartbeats 4000000 in
set_option maxRecDepth 100000 in
theorem c_Ch_keepBody {Z : rn_Z} {g1 g2 : Nat} {x : tX} {d : tD} {c : tC} {u : tU} {t : tT} {a : tG} {b : tG} {m : tM} {o : tO} {E : List rn_C} {v0 : Int32} {v1 : Int32} {v2 : Int32} {cR : tC} (h : F_Ch_keepBody c a v0 v1 v2 = some cR) : Call Z M_Ch_keepBody [.ref 4, .ref 35, .int v0, .int v1, .int v2] (emb g1 g2 x d c u t a b m o E) 0 0 none (emb g1 g2 x d cR u t a b m o E) := by
  unfold F_Ch_keepBody at h
  refine rn_call (by decide) 6 (by exact Nat.le_of_ble_eq_true rfl) ?_
  show Rn Z M_Ch_keepBody 0 [some (.ref 4), some (.ref 35), some (.int v0), some (.int v1), some (.int v2), none, none, none, none, none, none] [] (emb g1 g2 x d c u t a b m o E) 0 0 _
  refine rn_iload (by exact dc_Ch_keepBody 0 rfl) (by exact rfl) ?_
  refine rn_istore (ls' := [some (.ref 4), some (.ref 35), some (.int v0), some (.int v1), some (.int v2), some (.int v2), none, none, none, none, none]) (by exact dc_Ch_keepBody 1 rfl) (by decide) (by exact rfl) ?_
  refine rn_iconst (v := (1 : Int32)) (by exact dc_Ch_keepBody 2 rfl) (by decide) ?_
  refine rn_istore (ls' := [some (.ref 4), some (.ref 35), some (.int v0), some (.int v1), some (.int v2), some (.int v2), some (.int (1 : Int32)), none, none, none, none]) (by exact dc_Ch_keepBody 3 rfl) (by decide) (by exact rfl) ?_
  refine rn_iconst (v := (0 : Int32)) (by exact dc_Ch_keepBody 4 rfl) (by decide) ?_
  refine rn_istore (ls' := [some (.ref 4), some (.ref 35), some (.int v0), some (.int v1), some (.int v2), some (.int v2), some (.int (1 : Int32)), some (.int (0 : Int32)), none, none, none]) (by exact dc_Ch_keepBody 5 rfl) (by decide) (by exact rfl) ?_
  refine rn_iconst (v := (0 : Int32)) (by exact dc_Ch_keepBody 6 rfl) (by decide) ?_
  refine rn_istore (ls' := [some (.ref 4), some (.ref 35), some (.int v0), some (.int v1), some (.int v2), some (.int v2), some (.int (1 : Int32)), some (.int (0 : Int32)), some (.int (0 : Int32)), none, none]) (by exact dc_Ch_keepBody 7 rfl) (by decide) (by exact rfl) ?_
  obtain ⟨⟨y4, y5⟩, e1, h3⟩ := rn_bind h
  clear h
  dsimp only at h3
  have jx2 : Rn Z M_Ch_keepBody 100 [some (.ref 4), none, none, some (.int v1), none, none, some (.int y4), some (.int y5), none, none, none] [] (emb g1 g2 x d c u t a b m o E) 0 0 (rn_Ret Z none (emb g1 g2 x d cR u t a b m o E)) := by
    refine rn_aload_n (by exact dc_Ch_keepBody 55 rfl) (by exact rfl) ?_
    refine rn_getf (v := .ref 8) fd_Ch_22 (by exact dc_Ch_keepBody 56 rfl) (by exact rfl) (by exact rfl) ?_
    refine rn_iload_n (by exact dc_Ch_keepBody 57 rfl) (by exact rfl) ?_
    refine rn_iload (by exact dc_Ch_keepBody 58 rfl) (by exact rfl) ?_
    obtain ⟨f6, e7, h8⟩ := rn_bind h3
    clear h3
    refine rn_iastore (w2 := (emb g1 g2 x d (C_sums c, C_costs c, C_rules c, f6, C_lengths c, C_letters c, C_textLength c, C_restSums c, C_restCosts c, C_restLengths c) u t a b m o E)) (by exact dc_Ch_keepBody 59 rfl) (by exact rfl) e7 (by exact rfl) ?_
    refine rn_aload_n (by exact dc_Ch_keepBody 60 rfl) (by exact rfl) ?_
    refine rn_getf (v := .ref 9) fd_Ch_25 (by exact dc_Ch_keepBody 61 rfl) (by exact rfl) (by exact rfl) ?_
    refine rn_iload_n (by exact dc_Ch_keepBody 62 rfl) (by exact rfl) ?_
    refine rn_iload (by exact dc_Ch_keepBody 63 rfl) (by exact rfl) ?_
    obtain ⟨f9, e10, h11⟩ := rn_bind h8
    clear h8
    refine rn_iastore (w2 := (emb g1 g2 x d (C_sums c, C_costs c, C_rules c, f6, f9, C_letters c, C_textLength c, C_restSums c, C_restCosts c, C_restLengths c) u t a b m o E)) (by exact dc_Ch_keepBody 64 rfl) (by exact rfl) e10 (by exact rfl) ?_
    cases h11
    exact rn_return (by exact dc_Ch_keepBody 65 rfl) (by exact rfl)
  exact rn_weak _ (by repeat (first | exact rn_le_0 | apply rn_le_s | apply rn_le_x)) (p_Ch_keepBody_L13 jx2 _ _ _ _ _ e1)
def F_Ch_addRule (c : tC) (a : tG) (v0 : Int32) (v1 : Int32) (v2 : Int32) : Option tC :=
  Option.bind (F_Ch_matchBody c a v0 v1 v2) fun c2 =>
  Option.bind (aI 5 (0 : Int32)) fun j4 =>
  Option.bind (aG (C_restCosts c2 j4) 9 v1) fun x7 =>
  if ¬ x7 = (-1 : Int32) then (
    Option.bind (aG (G_heads a) 12 v0) fun x11 =>
    Option.bind (F_Ch_cell  x11 v1 v2) fun x15 =>
    Option.bind (aG (C_sums c2) 390 x15) fun x17 =>
    Option.bind (aG (G_weights a) 12 v0) fun x20 =>
    Option.bind (aI 5 (0 : Int32)) fun j23 =>
    Option.bind (aG (C_restSums c2 j23) 9 v1) fun x26 =>
    Option.bind (aS (C_sums c2) 390 x15 (x17 + (x20 * x26))) fun f29 =>
    Option.bind (aG (G_costs a) 12 v0) fun x32 =>
    Option.bind (aI 5 (0 : Int32)) fun j35 =>
    Option.bind (aG (C_restCosts c2 j35) 9 v1) fun x38 =>
    Option.bind (aG (C_costs c2) 390 x15) fun x41 =>
    Option.bind (
      if x41 = (-1 : Int32) then (
        Option.bind (aS (C_costs c2) 390 x15 (x32 + x38)) fun f49 =>
        Option.bind (aS (C_rules c2) 390 x15 v0) fun f52 =>
        Option.bind (F_Ch_keepBody (f29, f49, f52, C_sizes c2, C_lengths c2, C_letters c2, C_textLength c2, C_restSums c2, C_restCosts c2, C_restLengths c2) a v0 x15 v1) fun c56 =>
        some c56
      ) else (
        Option.bind (aG (C_costs c2) 390 x15) fun x58 =>
        if x58 ≤ (x32 + x38) then (
          some (f29, C_costs c2, C_rules c2, C_sizes c2, C_lengths c2, C_letters c2, C_textLength c2, C_restSums c2, C_restCosts c2, C_restLengths c2)
        ) else (
          Option.bind (aS (C_costs c2) 390 x15 (x32 + x38)) fun f62 =>
          Option.bind (aS (C_rules c2) 390 x15 v0) fun f65 =>
          Option.bind (F_Ch_keepBody (f29, f62, f65, C_sizes c2, C_lengths c2, C_letters c2, C_textLength c2, C_restSums c2, C_restCosts c2, C_restLengths c2) a v0 x15 v1) fun c69 =>
          some c69
        )
      )
     : Option tC) fun c44 =>
    some c44
  ) else (
    some c2
  )
set_option maxHeartbeats 4000000 in
set_option maxRecDepth 100000 in
theorem c_Ch_addRule {Z : rn_Z} {g1 g2 : Nat} {x : tX} {d : tD} {c : tC} {u : tU} {t : tT} {a : tG} {b : tG} {m : tM} {o : tO} {E : List rn_C} {v0 : Int32} {v1 : Int32} {v2 : Int32} {cR : tC} (h : F_Ch_addRule c a v0 v1 v2 = some cR) : Call Z M_Ch_addRule [.ref 4, .ref 35, .int v0, .int v1, .int v2] (emb g1 g2 x d c u t a b m o E) 0 0 none (emb g1 g2 x d cR u t a b m o E) := by
  unfold F_Ch_addRule at h
  refine rn_call (by decide) 2 (by exact Nat.le_of_ble_eq_true rfl) ?_
  show Rn Z M_Ch_addRule 0 [some (.ref 4), some (.ref 35), some (.int v0), some (.int v1), some (.int v2), none, none] [] (emb g1 g2 x d c u t a b m o E) 0 0 _
  refine rn_aload_n (by exact dc_Ch_addRule 0 rfl) (by exact rfl) ?_
  refine rn_aload_n (by exact dc_Ch_addRule 1 rfl) (by exact rfl) ?_
  refine rn_iload_n (by exact dc_Ch_addRule 2 rfl) (by exact rfl) ?_
  refine rn_iload_n (by exact dc_Ch_addRule 3 rfl) (by exact rfl) ?_
  refine rn_iload (by exact dc_Ch_addRule 4 rfl) (by exact rfl) ?_
  obtain ⟨c2, e1, h3⟩ := rn_bind h
  clear h
  refine rn_invV0 (by exact c_Ch_matchBody e1) iv_Ch_83 (by exact ⟨Nat.le_of_ble_eq_true rfl, Nat.le_of_ble_eq_true rfl⟩) (by exact dc_Ch_addRule 5 rfl) (by exact rfl) (by exact rfl) (by exact rfl) (by exact Nat.le_of_ble_eq_true rfl) ?_
  show Rn _ _ 9 [some (.ref 4), some (.ref 35), some (.int v0), some (.int v1), some (.int v2), none, none] [] (emb g1 g2 x d c2 u t a b m o E) _ _ _
  refine rn_aload_n (by exact dc_Ch_addRule 6 rfl) (by exact rfl) ?_
  refine rn_getf (v := .ref 17) fd_Ch_43 (by exact dc_Ch_addRule 7 rfl) (by exact rfl) (by exact rfl) ?_
  refine rn_iconst (v := (0 : Int32)) (by exact dc_Ch_addRule 8 rfl) (by decide) ?_
  obtain ⟨j4, e5, h6⟩ := rn_bind h3
  clear h3
  refine rn_aaload (y := 18 + j4) (by exact dc_Ch_addRule 9 rfl) (by exact rfl) (by exact (aI_some e5).1) (by exact aq_restCosts e5) ?_
  refine rn_iload_n (by exact dc_Ch_addRule 10 rfl) (by exact rfl) ?_
  obtain ⟨x7, e8, h9⟩ := rn_bind h6
  clear h6
  refine rn_iaload (by exact dc_Ch_addRule 11 rfl) (by exact ag_restCosts e5) e8 ?_
  refine rn_iconst (v := (-1 : Int32)) (by exact dc_Ch_addRule 12 rfl) (by decide) ?_
  by_cases c10 : ¬ x7 = (-1 : Int32)
  · replace h9 := rn_ifp c10 h9
    refine rn_icmp_ne_t 22 (by exact dc_Ch_addRule 13 rfl) (by exact rfl) c10 ?_
    refine rn_aload_n (by exact dc_Ch_addRule 15 rfl) (by exact rfl) ?_
    refine rn_getf (v := .ref 36) fd_Ch_73 (by exact dc_Ch_addRule 16 rfl) (by exact rfl) (by exact rfl) ?_
    refine rn_iload_n (by exact dc_Ch_addRule 17 rfl) (by exact rfl) ?_
    obtain ⟨x11, e12, h13⟩ := rn_bind h9
    clear h9
    refine rn_iaload (by exact dc_Ch_addRule 18 rfl) (by exact rfl) e12 ?_
    refine rn_iload_n (by exact dc_Ch_addRule 19 rfl) (by exact rfl) ?_
    refine rn_iload (by exact dc_Ch_addRule 20 rfl) (by exact rfl) ?_
    obtain ⟨x15, e14, h16⟩ := rn_bind h13
    clear h13
    refine rn_invS0 (by exact c_Ch_cell e14) is_Ch_49 (by exact ⟨Nat.le_of_ble_eq_true rfl, Nat.le_of_ble_eq_true rfl⟩) (by exact dc_Ch_addRule 21 rfl) (by exact rfl) (by exact rfl) (by exact Nat.le_of_ble_eq_true rfl) ?_
    show Rn _ _ 34 [some (.ref 4), some (.ref 35), some (.int v0), some (.int v1), some (.int v2), none, none] [.int x15] (emb g1 g2 x d c2 u t a b m o E) _ _ _
    refine rn_istore (ls' := [some (.ref 4), some (.ref 35), some (.int v0), some (.int v1), some (.int v2), some (.int x15), none]) (by exact dc_Ch_addRule 22 rfl) (by decide) (by exact rfl) ?_
    refine rn_aload_n (by exact dc_Ch_addRule 23 rfl) (by exact rfl) ?_
    refine rn_getf (v := .ref 5) fd_Ch_11 (by exact dc_Ch_addRule 24 rfl) (by exact rfl) (by exact rfl) ?_
    refine rn_iload (by exact dc_Ch_addRule 25 rfl) (by exact rfl) ?_
    refine rn_dup2 (by exact dc_Ch_addRule 26 rfl) (by exact rfl) (by exact rfl) ?_
    obtain ⟨x17, e18, h19⟩ := rn_bind h16
    clear h16
    refine rn_laload (by exact dc_Ch_addRule 27 rfl) (by exact rfl) e18 ?_
    refine rn_aload_n (by exact dc_Ch_addRule 28 rfl) (by exact rfl) ?_
    refine rn_getf (v := .ref 39) fd_Ch_86 (by exact dc_Ch_addRule 29 rfl) (by exact rfl) (by exact rfl) ?_
    refine rn_iload_n (by exact dc_Ch_addRule 30 rfl) (by exact rfl) ?_
    obtain ⟨x20, e21, h22⟩ := rn_bind h19
    clear h19
    refine rn_laload (by exact dc_Ch_addRule 31 rfl) (by exact rfl) e21 ?_
    refine rn_aload_n (by exact dc_Ch_addRule 32 rfl) (by exact rfl) ?_
    refine rn_getf (v := .ref 11) fd_Ch_38 (by exact dc_Ch_addRule 33 rfl) (by exact rfl) (by exact rfl) ?_
    refine rn_iconst (v := (0 : Int32)) (by exact dc_Ch_addRule 34 rfl) (by decide) ?_
    obtain ⟨j23, e24, h25⟩ := rn_bind h22
    clear h22
    refine rn_aaload (y := 12 + j23) (by exact dc_Ch_addRule 35 rfl) (by exact rfl) (by exact (aI_some e24).1) (by exact aq_restSums e24) ?_
    refine rn_iload_n (by exact dc_Ch_addRule 36 rfl) (by exact rfl) ?_
    obtain ⟨x26, e27, h28⟩ := rn_bind h25
    clear h25
    refine rn_laload (by exact dc_Ch_addRule 37 rfl) (by exact ag_restSums e24) e27 ?_
    refine rn_lmul (by exact dc_Ch_addRule 38 rfl) ?_
    refine rn_ladd (by exact dc_Ch_addRule 39 rfl) ?_
    obtain ⟨f29, e30, h31⟩ := rn_bind h28
    clear h28
    refine rn_lastore (w2 := (emb g1 g2 x d (f29, C_costs c2, C_rules c2, C_sizes c2, C_lengths c2, C_letters c2, C_textLength c2, C_restSums c2, C_restCosts c2, C_restLengths c2) u t a b m o E)) (by exact dc_Ch_addRule 40 rfl) (by exact rfl) e30 (by exact rfl) ?_
    refine rn_aload_n (by exact dc_Ch_addRule 41 rfl) (by exact rfl) ?_
    refine rn_getf (v := .ref 40) fd_Ch_89 (by exact dc_Ch_addRule 42 rfl) (by exact rfl) (by exact rfl) ?_
    refine rn_iload_n (by exact dc_Ch_addRule 43 rfl) (by exact rfl) ?_
    obtain ⟨x32, e33, h34⟩ := rn_bind h31
    clear h31
    refine rn_iaload (by exact dc_Ch_addRule 44 rfl) (by exact rfl) e33 ?_
    refine rn_aload_n (by exact dc_Ch_addRule 45 rfl) (by exact rfl) ?_
    refine rn_getf (v := .ref 17) fd_Ch_43 (by exact dc_Ch_addRule 46 rfl) (by exact rfl) (by exact rfl) ?_
    refine rn_iconst (v := (0 : Int32)) (by exact dc_Ch_addRule 47 rfl) (by decide) ?_
    obtain ⟨j35, e36, h37⟩ := rn_bind h34
    clear h34
    refine rn_aaload (y := 18 + j35) (by exact dc_Ch_addRule 48 rfl) (by exact rfl) (by exact (aI_some e36).1) (by exact aq_restCosts e36) ?_
    refine rn_iload_n (by exact dc_Ch_addRule 49 rfl) (by exact rfl) ?_
    obtain ⟨x38, e39, h40⟩ := rn_bind h37
    clear h37
    refine rn_iaload (by exact dc_Ch_addRule 50 rfl) (by exact ag_restCosts e36) e39 ?_
    refine rn_iadd (by exact dc_Ch_addRule 51 rfl) ?_
    refine rn_istore (ls' := [some (.ref 4), some (.ref 35), some (.int v0), some (.int v1), some (.int v2), some (.int x15), some (.int (x32 + x38))]) (by exact dc_Ch_addRule 52 rfl) (by decide) (by exact rfl) ?_
    refine rn_aload_n (by exact dc_Ch_addRule 53 rfl) (by exact rfl) ?_
    refine rn_getf (v := .ref 6) fd_Ch_15 (by exact dc_Ch_addRule 54 rfl) (by exact rfl) (by exact rfl) ?_
    refine rn_iload (by exact dc_Ch_addRule 55 rfl) (by exact rfl) ?_
    obtain ⟨x41, e42, h43⟩ := rn_bind h40
    clear h40
    refine rn_iaload (by exact dc_Ch_addRule 56 rfl) (by exact rfl) e42 ?_
    refine rn_iconst (v := (-1 : Int32)) (by exact dc_Ch_addRule 57 rfl) (by decide) ?_
    obtain ⟨c44, e45, h47⟩ := rn_bind h43
    clear h43
    have jq46 : Rn Z M_Ch_addRule 127 [none, none, none, none, none, none, none] [] (emb g1 g2 x d c44 u t a b m o E) 0 0 (rn_Ret Z none (emb g1 g2 x d cR u t a b m o E)) := by
      cases h47
      exact rn_return (by exact dc_Ch_addRule 81 rfl) (by exact rfl)
    by_cases c48 : x41 = (-1 : Int32)
    · replace e45 := rn_ifp c48 e45
      refine rn_icmp_eq_t 101 (by exact dc_Ch_addRule 58 rfl) (by exact rfl) c48 ?_
      refine rn_aload_n (by exact dc_Ch_addRule 65 rfl) (by exact rfl) ?_
      refine rn_getf (v := .ref 6) fd_Ch_15 (by exact dc_Ch_addRule 66 rfl) (by exact rfl) (by exact rfl) ?_
      refine rn_iload (by exact dc_Ch_addRule 67 rfl) (by exact rfl) ?_
      refine rn_iload (by exact dc_Ch_addRule 68 rfl) (by exact rfl) ?_
      obtain ⟨f49, e50, h51⟩ := rn_bind e45
      clear e45
      refine rn_iastore (w2 := (emb g1 g2 x d (f29, f49, C_rules c2, C_sizes c2, C_lengths c2, C_letters c2, C_textLength c2, C_restSums c2, C_restCosts c2, C_restLengths c2) u t a b m o E)) (by exact dc_Ch_addRule 69 rfl) (by exact rfl) e50 (by exact rfl) ?_
      refine rn_aload_n (by exact dc_Ch_addRule 70 rfl) (by exact rfl) ?_
      refine rn_getf (v := .ref 7) fd_Ch_19 (by exact dc_Ch_addRule 71 rfl) (by exact rfl) (by exact rfl) ?_
      refine rn_iload (by exact dc_Ch_addRule 72 rfl) (by exact rfl) ?_
      refine rn_iload_n (by exact dc_Ch_addRule 73 rfl) (by exact rfl) ?_
      obtain ⟨f52, e53, h54⟩ := rn_bind h51
      clear h51
      refine rn_iastore (w2 := (emb g1 g2 x d (f29, f49, f52, C_sizes c2, C_lengths c2, C_letters c2, C_textLength c2, C_restSums c2, C_restCosts c2, C_restLengths c2) u t a b m o E)) (by exact dc_Ch_addRule 74 rfl) (by exact rfl) e53 (by exact rfl) ?_
      refine rn_aload_n (by exact dc_Ch_addRule 75 rfl) (by exact rfl) ?_
      refine rn_aload_n (by exact dc_Ch_addRule 76 rfl) (by exact rfl) ?_
      refine rn_iload_n (by exact dc_Ch_addRule 77 rfl) (by exact rfl) ?_
      refine rn_iload (by exact dc_Ch_addRule 78 rfl) (by exact rfl) ?_
      refine rn_iload_n (by exact dc_Ch_addRule 79 rfl) (by exact rfl) ?_
      obtain ⟨c56, e55, h57⟩ := rn_bind h54
      clear h54
      refine rn_invV0 (by exact c_Ch_keepBody e55) iv_Ch_90 (by exact ⟨Nat.le_of_ble_eq_true rfl, Nat.le_of_ble_eq_true rfl⟩) (by exact dc_Ch_addRule 80 rfl) (by exact rfl) (by exact rfl) (by exact rfl) (by exact Nat.le_of_ble_eq_true rfl) ?_
      show Rn _ _ 127 [some (.ref 4), some (.ref 35), some (.int v0), some (.int v1), some (.int v2), some (.int x15), some (.int (x32 + x38))] [] (emb g1 g2 x d c56 u t a b m o E) _ _ _
      cases h57
      exact rn_weak _ (by repeat (first | exact rn_le_0 | apply rn_le_s | apply rn_le_x)) jq46
    · replace e45 := rn_ifn c48 e45
      refine rn_icmp_eq_f 101 (by exact dc_Ch_addRule 58 rfl) (by exact rfl) c48 ?_
      refine rn_iload (by exact dc_Ch_addRule 59 rfl) (by exact rfl) ?_
      refine rn_aload_n (by exact dc_Ch_addRule 60 rfl) (by exact rfl) ?_
      refine rn_getf (v := .ref 6) fd_Ch_15 (by exact dc_Ch_addRule 61 rfl) (by exact rfl) (by exact rfl) ?_
      refine rn_iload (by exact dc_Ch_addRule 62 rfl) (by exact rfl) ?_
      obtain ⟨x58, e59, h60⟩ := rn_bind e45
      clear e45
      refine rn_iaload (by exact dc_Ch_addRule 63 rfl) (by exact rfl) e59 ?_
      by_cases c61 : x58 ≤ (x32 + x38)
      · replace h60 := rn_ifp c61 h60
        refine rn_icmp_ge_t 127 (by exact dc_Ch_addRule 64 rfl) (by exact rfl) c61 ?_
        cases h60
        exact rn_weak _ (by repeat (first | exact rn_le_0 | apply rn_le_s | apply rn_le_x)) jq46
      · replace h60 := rn_ifn c61 h60
        refine rn_icmp_ge_f 127 (by exact dc_Ch_addRule 64 rfl) (by exact rfl) c61 ?_
        refine rn_aload_n (by exact dc_Ch_addRule 65 rfl) (by exact rfl) ?_
        refine rn_getf (v := .ref 6) fd_Ch_15 (by exact dc_Ch_addRule 66 rfl) (by exact rfl) (by exact rfl) ?_
        refine rn_iload (by exact dc_Ch_addRule 67 rfl) (by exact rfl) ?_
        refine rn_iload (by exact dc_Ch_addRule 68 rfl) (by exact rfl) ?_
        obtain ⟨f62, e63, h64⟩ := rn_bind h60
        clear h60
        refine rn_iastore (w2 := (emb g1 g2 x d (f29, f62, C_rules c2, C_sizes c2, C_lengths c2, C_letters c2, C_textLength c2, C_restSums c2, C_restCosts c2, C_restLengths c2) u t a b m o E)) (by exact dc_Ch_addRule 69 rfl) (by exact rfl) e63 (by exact rfl) ?_
        refine rn_aload_n (by exact dc_Ch_addRule 70 rfl) (by exact rfl) ?_
        refine rn_getf (v := .ref 7) fd_Ch_19 (by exact dc_Ch_addRule 71 rfl) (by exact rfl) (by exact rfl) ?_
        refine rn_iload (by exact dc_Ch_addRule 72 rfl) (by exact rfl) ?_
        refine rn_iload_n (by exact dc_Ch_addRule 73 rfl) (by exact rfl) ?_
        obtain ⟨f65, e66, h67⟩ := rn_bind h64
        clear h64
        refine rn_iastore (w2 := (emb g1 g2 x d (f29, f62, f65, C_sizes c2, C_lengths c2, C_letters c2, C_textLength c2, C_restSums c2, C_restCosts c2, C_restLengths c2) u t a b m o E)) (by exact dc_Ch_addRule 74 rfl) (by exact rfl) e66 (by exact rfl) ?_
        refine rn_aload_n (by exact dc_Ch_addRule 75 rfl) (by exact rfl) ?_
        refine rn_aload_n (by exact dc_Ch_addRule 76 rfl) (by exact rfl) ?_
        refine rn_iload_n (by exact dc_Ch_addRule 77 rfl) (by exact rfl) ?_
        refine rn_iload (by exact dc_Ch_addRule 78 rfl) (by exact rfl) ?_
        refine rn_iload_n (by exact dc_Ch_addRule 79 rfl) (by exact rfl) ?_
        obtain ⟨c69, e68, h70⟩ := rn_bind h67
        clear h67
        refine rn_invV0 (by exact c_Ch_keepBody e68) iv_Ch_90 (by exact ⟨Nat.le_of_ble_eq_true rfl, Nat.le_of_ble_eq_true rfl⟩) (by exact dc_Ch_addRule 80 rfl) (by exact rfl) (by exact rfl) (by exact rfl) (by exact Nat.le_of_ble_eq_true rfl) ?_
        show Rn _ _ 127 [some (.ref 4), some (.ref 35), some (.int v0), some (.int v1), some (.int v2), some (.int x15), some (.int (x32 + x38))] [] (emb g1 g2 x d c69 u t a b m o E) _ _ _
        cases h70
        exact rn_weak _ (by repeat (first | exact rn_le_0 | apply rn_le_s | apply rn_le_x)) jq46
  · replace h9 := rn_ifn c10 h9
    refine rn_icmp_ne_f 22 (by exact dc_Ch_addRule 13 rfl) (by exact rfl) (Classical.not_not.mp c10) ?_
    cases h9
    exact rn_return (by exact dc_Ch_addRule 14 rfl) (by exact rfl)
def F_Ch_fillPart_L3 (l2 : Int32) (l3 : Int32) : Nat → tC → Int32 → Option tC
  | 0, _, _ => none
  | n + 1, c, l4 =>
    if (6 : Int32) ≤ l4 then (
      some c
    ) else (
      Option.bind (F_Ch_cell  l4 l2 l3) fun x3 =>
      Option.bind (aS (C_sums c) 390 x3 (0 : Int64)) fun f5 =>
      Option.bind (F_Ch_cell  l4 l2 l3) fun x9 =>
      Option.bind (aS (C_costs c) 390 x9 (-1 : Int32)) fun f11 =>
      F_Ch_fillPart_L3 l2 l3 n (f5, f11, C_rules c, C_sizes c, C_lengths c, C_letters c, C_textLength c, C_restSums c, C_restCosts c, C_restLengths c) (l4 + 1)
    )
set_option maxHeartbeats 4000000 in
set_option maxRecDepth 100000 in
theorem p_Ch_fillPart_L3 {Z : rn_Z} {g1 g2 : Nat} {x : tX} {d : tD}  {u : tU} {t : tT} {a : tG} {b : tG} {m : tM} {o : tO} {E : List rn_C}  {l2 : Int32} {l3 : Int32} {K : rn_K} {cz : tC} (hx : Rn Z M_Ch_fillPart 42 [some (.ref 4), some (.ref 35), some (.int l2), some (.int l3), none, none] [] (emb g1 g2 x d cz u t a b m o E) 0 0 K) (n : Nat) : ∀ (c : tC) (l4 : Int32), F_Ch_fillPart_L3 l2 l3 n c l4 = some cz → Rn Z M_Ch_fillPart 3 [some (.ref 4), some (.ref 35), some (.int l2), some (.int l3), some (.int l4), none] [] (emb g1 g2 x d c u t a b m o E) 0 0 K := by
  induction n with
  | zero =>
    intro c l4 h
    rw [F_Ch_fillPart_L3] at h
    cases h
  | succ n ih =>
    intro c l4 h
    rw [F_Ch_fillPart_L3] at h
    refine rn_iload (by exact dc_Ch_fillPart 2 rfl) (by exact rfl) ?_
    refine rn_bipush (v := (6 : Int32)) (by exact dc_Ch_fillPart 3 rfl) (by decide) ?_
    by_cases c1 : (6 : Int32) ≤ l4
    · replace h := rn_ifp c1 h
      refine rn_icmp_ge_t 42 (by exact dc_Ch_fillPart 4 rfl) (by exact rfl) c1 ?_
      cases h
      exact rn_weak _ (by repeat (first | exact rn_le_0 | apply rn_le_s | apply rn_le_x)) hx
    · replace h := rn_ifn c1 h
      refine rn_icmp_ge_f 42 (by exact dc_Ch_fillPart 4 rfl) (by exact rfl) c1 ?_
      refine rn_aload_n (by exact dc_Ch_fillPart 5 rfl) (by exact rfl) ?_
      refine rn_getf (v := .ref 5) fd_Ch_11 (by exact dc_Ch_fillPart 6 rfl) (by exact rfl) (by exact rfl) ?_
      refine rn_iload (by exact dc_Ch_fillPart 7 rfl) (by exact rfl) ?_
      refine rn_iload_n (by exact dc_Ch_fillPart 8 rfl) (by exact rfl) ?_
      refine rn_iload_n (by exact dc_Ch_fillPart 9 rfl) (by exact rfl) ?_
      obtain ⟨x3, e2, h4⟩ := rn_bind h
      clear h
      refine rn_invS0 (by exact c_Ch_cell e2) is_Ch_49 (by exact ⟨Nat.le_of_ble_eq_true rfl, Nat.le_of_ble_eq_true rfl⟩) (by exact dc_Ch_fillPart 10 rfl) (by exact rfl) (by exact rfl) (by exact Nat.le_of_ble_eq_true rfl) ?_
      show Rn _ _ 21 [some (.ref 4), some (.ref 35), some (.int l2), some (.int l3), some (.int l4), none] [.int x3, .ref 5] (emb g1 g2 x d c u t a b m o E) _ _ _
      refine rn_lconst (v := (0 : Int64)) (by exact dc_Ch_fillPart 11 rfl) (by decide) ?_
      obtain ⟨f5, e6, h7⟩ := rn_bind h4
      clear h4
      refine rn_lastore (w2 := (emb g1 g2 x d (f5, C_costs c, C_rules c, C_sizes c, C_lengths c, C_letters c, C_textLength c, C_restSums c, C_restCosts c, C_restLengths c) u t a b m o E)) (by exact dc_Ch_fillPart 12 rfl) (by exact rfl) e6 (by exact rfl) ?_
      refine rn_aload_n (by exact dc_Ch_fillPart 13 rfl) (by exact rfl) ?_
      refine rn_getf (v := .ref 6) fd_Ch_15 (by exact dc_Ch_fillPart 14 rfl) (by exact rfl) (by exact rfl) ?_
      refine rn_iload (by exact dc_Ch_fillPart 15 rfl) (by exact rfl) ?_
      refine rn_iload_n (by exact dc_Ch_fillPart 16 rfl) (by exact rfl) ?_
      refine rn_iload_n (by exact dc_Ch_fillPart 17 rfl) (by exact rfl) ?_
      obtain ⟨x9, e8, h10⟩ := rn_bind h7
      clear h7
      refine rn_invS0 (by exact c_Ch_cell e8) is_Ch_49 (by exact ⟨Nat.le_of_ble_eq_true rfl, Nat.le_of_ble_eq_true rfl⟩) (by exact dc_Ch_fillPart 18 rfl) (by exact rfl) (by exact rfl) (by exact Nat.le_of_ble_eq_true rfl) ?_
      show Rn _ _ 34 [some (.ref 4), some (.ref 35), some (.int l2), some (.int l3), some (.int l4), none] [.int x9, .ref 6] (emb g1 g2 x d (f5, C_costs c, C_rules c, C_sizes c, C_lengths c, C_letters c, C_textLength c, C_restSums c, C_restCosts c, C_restLengths c) u t a b m o E) _ _ _
      refine rn_iconst (v := (-1 : Int32)) (by exact dc_Ch_fillPart 19 rfl) (by decide) ?_
      obtain ⟨f11, e12, h13⟩ := rn_bind h10
      clear h10
      refine rn_iastore (w2 := (emb g1 g2 x d (f5, f11, C_rules c, C_sizes c, C_lengths c, C_letters c, C_textLength c, C_restSums c, C_restCosts c, C_restLengths c) u t a b m o E)) (by exact dc_Ch_fillPart 20 rfl) (by exact rfl) e12 (by exact rfl) ?_
      refine rn_iinc (ls' := [some (.ref 4), some (.ref 35), some (.int l2), some (.int l3), some (.int (l4 + 1)), none]) (by exact dc_Ch_fillPart 21 rfl) (by decide) (by exact rfl) (by exact rn_inc_1 _) (by exact rfl) ?_
      refine rn_goto 3 (by exact dc_Ch_fillPart 22 rfl) (by exact rfl) ?_
      exact rn_weak _ (by repeat (first | exact rn_le_0 | apply rn_le_s | apply rn_le_x)) (ih _ _ h13)
def F_Ch_fillPart_L57 (a : tG) (l2 : Int32) (l3 : Int32) (l4 : Int32) : Nat → tC → Int32 → Option tC
  | 0, _, _ => none
  | n + 1, c, l5 =>
    if (G_ruleCount a) ≤ l5 then (
      some c
    ) else (
      Option.bind (aG (G_heads a) 12 l5) fun x2 =>
      Option.bind (aG (G_order a) 6 l4) fun x5 =>
      Option.bind (
        if ¬ x2 = x5 then (
          some c
        ) else (
          Option.bind (F_Ch_addRule c a l5 l2 l3) fun c14 =>
          some c14
        )
       : Option tC) fun c8 =>
      F_Ch_fillPart_L57 a l2 l3 l4 n c8 (l5 + 1)
    )
set_option maxHeartbeats 4000000 in
set_option maxRecDepth 100000 in
theorem p_Ch_fillPart_L57 {Z : rn_Z} {g1 g2 : Nat} {x : tX} {d : tD}  {u : tU} {t : tT} {a : tG} {b : tG} {m : tM} {o : tO} {E : List rn_C}  {l2 : Int32} {l3 : Int32} {l4 : Int32} {K : rn_K} {cz : tC} (hx : Rn Z M_Ch_fillPart 98 [some (.ref 4), some (.ref 35), some (.int l2), some (.int l3), some (.int l4), none] [] (emb g1 g2 x d cz u t a b m o E) 0 0 K) (n : Nat) : ∀ (c : tC) (l5 : Int32), F_Ch_fillPart_L57 a l2 l3 l4 n c l5 = some cz → Rn Z M_Ch_fillPart 57 [some (.ref 4), some (.ref 35), some (.int l2), some (.int l3), some (.int l4), some (.int l5)] [] (emb g1 g2 x d c u t a b m o E) 0 0 K := by
  induction n with
  | zero =>
    intro c l5 h
    rw [F_Ch_fillPart_L57] at h
    cases h
  | succ n ih =>
    intro c l5 h
    rw [F_Ch_fillPart_L57] at h
    refine rn_iload (by exact dc_Ch_fillPart 31 rfl) (by exact rfl) ?_
    refine rn_aload_n (by exact dc_Ch_fillPart 32 rfl) (by exact rfl) ?_
    refine rn_getf (v := .int (G_ruleCount a)) fd_Ch_70 (by exact dc_Ch_fillPart 33 rfl) (by exact rfl) (by exact rfl) ?_
    by_cases c1 : (G_ruleCount a) ≤ l5
    · replace h := rn_ifp c1 h
      refine rn_icmp_ge_t 98 (by exact dc_Ch_fillPart 34 rfl) (by exact rfl) c1 ?_
      cases h
      exact rn_weak _ (by repeat (first | exact rn_le_0 | apply rn_le_s | apply rn_le_x)) hx
    · replace h := rn_ifn c1 h
      refine rn_icmp_ge_f 98 (by exact dc_Ch_fillPart 34 rfl) (by exact rfl) c1 ?_
      refine rn_aload_n (by exact dc_Ch_fillPart 35 rfl) (by exact rfl) ?_
      refine rn_getf (v := .ref 36) fd_Ch_73 (by exact dc_Ch_fillPart 36 rfl) (by exact rfl) (by exact rfl) ?_
      refine rn_iload (by exact dc_Ch_fillPart 37 rfl) (by exact rfl) ?_
      obtain ⟨x2, e3, h4⟩ := rn_bind h
      clear h
      refine rn_iaload (by exact dc_Ch_fillPart 38 rfl) (by exact rfl) e3 ?_
      refine rn_aload_n (by exact dc_Ch_fillPart 39 rfl) (by exact rfl) ?_
      refine rn_getf (v := .ref 42) fd_Ch_76 (by exact dc_Ch_fillPart 40 rfl) (by exact rfl) (by exact rfl) ?_
      refine rn_iload (by exact dc_Ch_fillPart 41 rfl) (by exact rfl) ?_
      obtain ⟨x5, e6, h7⟩ := rn_bind h4
      clear h4
      refine rn_iaload (by exact dc_Ch_fillPart 42 rfl) (by exact rfl) e6 ?_
      obtain ⟨c8, e9, h11⟩ := rn_bind h7
      clear h7
      have jq10 : Rn Z M_Ch_fillPart 92 [some (.ref 4), some (.ref 35), some (.int l2), some (.int l3), some (.int l4), some (.int l5)] [] (emb g1 g2 x d c8 u t a b m o E) 0 0 K := by
        refine rn_iinc (ls' := [some (.ref 4), some (.ref 35), some (.int l2), some (.int l3), some (.int l4), some (.int (l5 + 1))]) (by exact dc_Ch_fillPart 50 rfl) (by decide) (by exact rfl) (by exact rn_inc_1 _) (by exact rfl) ?_
        refine rn_goto 57 (by exact dc_Ch_fillPart 51 rfl) (by exact rfl) ?_
        exact rn_weak _ (by repeat (first | exact rn_le_0 | apply rn_le_s | apply rn_le_x)) (ih _ _ h11)
      by_cases c12 : ¬ x2 = x5
      · replace e9 := rn_ifp c12 e9
        refine rn_icmp_ne_t 92 (by exact dc_Ch_fillPart 43 rfl) (by exact rfl) c12 ?_
        cases e9
        exact rn_weak _ (by repeat (first | exact rn_le_0 | apply rn_le_s | apply rn_le_x)) jq10
      · replace e9 := rn_ifn c12 e9
        refine rn_icmp_ne_f 92 (by exact dc_Ch_fillPart 43 rfl) (by exact rfl) (Classical.not_not.mp c12) ?_
        refine rn_aload_n (by exact dc_Ch_fillPart 44 rfl) (by exact rfl) ?_
        refine rn_aload_n (by exact dc_Ch_fillPart 45 rfl) (by exact rfl) ?_
        refine rn_iload (by exact dc_Ch_fillPart 46 rfl) (by exact rfl) ?_
        refine rn_iload_n (by exact dc_Ch_fillPart 47 rfl) (by exact rfl) ?_
        refine rn_iload_n (by exact dc_Ch_fillPart 48 rfl) (by exact rfl) ?_
        obtain ⟨c14, e13, h15⟩ := rn_bind e9
        clear e9
        refine rn_invV0 (by exact c_Ch_addRule e13) iv_Ch_79 (by exact ⟨Nat.le_of_ble_eq_true rfl, Nat.le_of_ble_eq_true rfl⟩) (by exact dc_Ch_fillPart 49 rfl) (by exact rfl) (by exact rfl) (by exact rfl) (by exact Nat.le_of_ble_eq_true rfl) ?_
        show Rn _ _ 92 [some (.ref 4), some (.ref 35), some (.int l2), some (.int l3), some (.int l4), some (.int l5)] [] (emb g1 g2 x d c14 u t a b m o E) _ _ _
        cases h15
        exact rn_weak _ (by repeat (first | exact rn_le_0 | apply rn_le_s | apply rn_le_x)) jq10
def F_Ch_fillPart_L45 (a : tG) (l2 : Int32) (l3 : Int32) : Nat → tC → Int32 → Option tC
  | 0, _, _ => none
  | n + 1, c, l4 =>
    if (G_nonterminalCount a) ≤ l4 then (
      some c
    ) else (
      Option.bind (F_Ch_fillPart_L57 a l2 l3 l4 rn_fu c (0 : Int32)) fun c5 =>
      F_Ch_fillPart_L45 a l2 l3 n c5 (l4 + 1)
    )
set_option maxHeartbeats 4000000 in
set_option maxRecDepth 100000 in
theorem p_Ch_fillPart_L45 {Z : rn_Z} {g1 g2 : Nat} {x : tX} {d : tD}  {u : tU} {t : tT} {a : tG} {b : tG} {m : tM} {o : tO} {E : List rn_C}  {l2 : Int32} {l3 : Int32} {K : rn_K} {cz : tC} (hx : Rn Z M_Ch_fillPart 104 [none, none, none, none, none, none] [] (emb g1 g2 x d cz u t a b m o E) 0 0 K) (n : Nat) : ∀ (c : tC) (l4 : Int32), F_Ch_fillPart_L45 a l2 l3 n c l4 = some cz → Rn Z M_Ch_fillPart 45 [some (.ref 4), some (.ref 35), some (.int l2), some (.int l3), some (.int l4), none] [] (emb g1 g2 x d c u t a b m o E) 0 0 K := by
  induction n with
  | zero =>
    intro c l4 h
    rw [F_Ch_fillPart_L45] at h
    cases h
  | succ n ih =>
    intro c l4 h
    rw [F_Ch_fillPart_L45] at h
    refine rn_iload (by exact dc_Ch_fillPart 25 rfl) (by exact rfl) ?_
    refine rn_aload_n (by exact dc_Ch_fillPart 26 rfl) (by exact rfl) ?_
    refine rn_getf (v := .int (G_nonterminalCount a)) fd_Ch_65 (by exact dc_Ch_fillPart 27 rfl) (by exact rfl) (by exact rfl) ?_
    by_cases c1 : (G_nonterminalCount a) ≤ l4
    · replace h := rn_ifp c1 h
      refine rn_icmp_ge_t 104 (by exact dc_Ch_fillPart 28 rfl) (by exact rfl) c1 ?_
      cases h
      exact rn_weak _ (by repeat (first | exact rn_le_0 | apply rn_le_s | apply rn_le_x)) hx
    · replace h := rn_ifn c1 h
      refine rn_icmp_ge_f 104 (by exact dc_Ch_fillPart 28 rfl) (by exact rfl) c1 ?_
      refine rn_iconst (v := (0 : Int32)) (by exact dc_Ch_fillPart 29 rfl) (by decide) ?_
      refine rn_istore (ls' := [some (.ref 4), some (.ref 35), some (.int l2), some (.int l3), some (.int l4), some (.int (0 : Int32))]) (by exact dc_Ch_fillPart 30 rfl) (by decide) (by exact rfl) ?_
      obtain ⟨c5, e2, h4⟩ := rn_bind h
      clear h
      have jx3 : Rn Z M_Ch_fillPart 98 [some (.ref 4), some (.ref 35), some (.int l2), some (.int l3), some (.int l4), none] [] (emb g1 g2 x d c5 u t a b m o E) 0 0 K := by
        refine rn_iinc (ls' := [some (.ref 4), some (.ref 35), some (.int l2), some (.int l3), some (.int (l4 + 1)), none]) (by exact dc_Ch_fillPart 52 rfl) (by decide) (by exact rfl) (by exact rn_inc_1 _) (by exact rfl) ?_
        refine rn_goto 45 (by exact dc_Ch_fillPart 53 rfl) (by exact rfl) ?_
        exact rn_weak _ (by repeat (first | exact rn_le_0 | apply rn_le_s | apply rn_le_x)) (ih _ _ h4)
      exact rn_weak _ (by repeat (first | exact rn_le_0 | apply rn_le_s | apply rn_le_x)) (p_Ch_fillPart_L57 jx3 _ _ _ e2)
def F_Ch_fillPart (c : tC) (a : tG) (v0 : Int32) (v1 : Int32) : Option tC :=
  Option.bind (F_Ch_fillPart_L3 v0 v1 rn_fu c (0 : Int32)) fun c4 =>
  Option.bind (F_Ch_fillPart_L45 a v0 v1 rn_fu c4 (0 : Int32)) fun c8 =>
  some c8
set_option maxHeartbeats 4000000 in
set_option maxRecDepth 100000 in
theorem c_Ch_fillPart {Z : rn_Z} {g1 g2 : Nat} {x : tX} {d : tD} {c : tC} {u : tU} {t : tT} {a : tG} {b : tG} {m : tM} {o : tO} {E : List rn_C} {v0 : Int32} {v1 : Int32} {cR : tC} (h : F_Ch_fillPart c a v0 v1 = some cR) : Call Z M_Ch_fillPart [.ref 4, .ref 35, .int v0, .int v1] (emb g1 g2 x d c u t a b m o E) 0 0 none (emb g1 g2 x d cR u t a b m o E) := by
  unfold F_Ch_fillPart at h
  refine rn_call (by decide) 2 (by exact Nat.le_of_ble_eq_true rfl) ?_
  show Rn Z M_Ch_fillPart 0 [some (.ref 4), some (.ref 35), some (.int v0), some (.int v1), none, none] [] (emb g1 g2 x d c u t a b m o E) 0 0 _
  refine rn_iconst (v := (0 : Int32)) (by exact dc_Ch_fillPart 0 rfl) (by decide) ?_
  refine rn_istore (ls' := [some (.ref 4), some (.ref 35), some (.int v0), some (.int v1), some (.int (0 : Int32)), none]) (by exact dc_Ch_fillPart 1 rfl) (by decide) (by exact rfl) ?_
  obtain ⟨c4, e1, h3⟩ := rn_bind h
  clear h
  have jx2 : Rn Z M_Ch_fillPart 42 [some (.ref 4), some (.ref 35), some (.int v0), some (.int v1), none, none] [] (emb g1 g2 x d c4 u t a b m o E) 0 0 (rn_Ret Z none (emb g1 g2 x d cR u t a b m o E)) := by
    refine rn_iconst (v := (0 : Int32)) (by exact dc_Ch_fillPart 23 rfl) (by decide) ?_
    refine rn_istore (ls' := [some (.ref 4), some (.ref 35), some (.int v0), some (.int v1), some (.int (0 : Int32)), none]) (by exact dc_Ch_fillPart 24 rfl) (by decide) (by exact rfl) ?_
    obtain ⟨c8, e5, h7⟩ := rn_bind h3
    clear h3
    have jx6 : Rn Z M_Ch_fillPart 104 [none, none, none, none, none, none] [] (emb g1 g2 x d c8 u t a b m o E) 0 0 (rn_Ret Z none (emb g1 g2 x d cR u t a b m o E)) := by
      cases h7
      exact rn_return (by exact dc_Ch_fillPart 54 rfl) (by exact rfl)
    exact rn_weak _ (by repeat (first | exact rn_le_0 | apply rn_le_s | apply rn_le_x)) (p_Ch_fillPart_L45 jx6 _ _ _ e5)
  exact rn_weak _ (by repeat (first | exact rn_le_0 | apply rn_le_s | apply rn_le_x)) (p_Ch_fillPart_L3 jx2 _ _ _ e1)
set_option maxHeartbeats 4000000 in
set_option maxRecDepth 100000 in
theorem p_Ch_matchBody_L11_b {Z : rn_Z} {g1 g2 : Nat} {x : tX} {d : tD}  {u : tU} {t : tT} {a : tG} {b : tG} {m : tM} {o : tO} {E : List rn_C}  {l2 : Int32} {l3 : Int32} {l4 : Int32} {l5 : Int32} {K : rn_K} {cz : tC} (hx : Rn Z M_Ch_matchBody 68 [some (.ref 4), some (.ref 44), some (.int l2), some (.int l3), some (.int l4), some (.int l5), none, none, none, none] [] (emb g1 g2 x d cz u t a b m o E) 0 0 K) (n : Nat) : ∀ (c : tC) (l6 : Int32), F_Ch_matchBody_L11 l2 l3 l4 l5 n c l6 = some cz → Rn Z M_Ch_matchBody 11 [some (.ref 4), some (.ref 44), some (.int l2), some (.int l3), some (.int l4), some (.int l5), some (.int l6), none, none, none] [] (emb g1 g2 x d c u t a b m o E) 0 0 K := by
  induction n with
  | zero =>
    intro c l6 h
    rw [F_Ch_matchBody_L11] at h
    cases h
  | succ n ih =>
    intro c l6 h
    rw [F_Ch_matchBody_L11] at h
    refine rn_iload (by exact dc_Ch_matchBody 7 rfl) (by exact rfl) ?_
    refine rn_iload (by exact dc_Ch_matchBody 8 rfl) (by exact rfl) ?_
    by_cases c1 : l4 < l6
    · replace h := rn_ifp c1 h
      refine rn_icmp_gt_t 68 (by exact dc_Ch_matchBody 9 rfl) (by exact rfl) c1 ?_
      cases h
      exact rn_weak _ (by repeat (first | exact rn_le_0 | apply rn_le_s | apply rn_le_x)) hx
    · replace h := rn_ifn c1 h
      refine rn_icmp_gt_f 68 (by exact dc_Ch_matchBody 9 rfl) (by exact rfl) c1 ?_
      refine rn_aload_n (by exact dc_Ch_matchBody 10 rfl) (by exact rfl) ?_
      refine rn_getf (v := .ref 11) fd_Ch_38 (by exact dc_Ch_matchBody 11 rfl) (by exact rfl) (by exact rfl) ?_
      refine rn_iload (by exact dc_Ch_matchBody 12 rfl) (by exact rfl) ?_
      obtain ⟨j2, e3, h4⟩ := rn_bind h
      clear h
      refine rn_aaload (y := 12 + j2) (by exact dc_Ch_matchBody 13 rfl) (by exact rfl) (by exact (aI_some e3).1) (by exact aq_restSums e3) ?_
      refine rn_iload (by exact dc_Ch_matchBody 14 rfl) (by exact rfl) ?_
      refine rn_iload (by exact dc_Ch_matchBody 15 rfl) (by exact rfl) ?_
      refine rn_iload (by exact dc_Ch_matchBody 16 rfl) (by exact rfl) ?_
      obtain ⟨y5, e6, h8⟩ := rn_bind h4
      clear h4
      have jq7 : Rn Z M_Ch_matchBody 39 [some (.ref 4), some (.ref 44), some (.int l2), some (.int l3), some (.int l4), some (.int l5), some (.int l6), none, none, none] [.long y5, .int l6, .ref (12 + j2)] (emb g1 g2 x d c u t a b m o E) 0 0 K := by
        obtain ⟨f10, e11, h12⟩ := rn_bind h8
        clear h8
        refine rn_lastore (w2 := (emb g1 g2 x d (C_sums c, C_costs c, C_rules c, C_sizes c, C_lengths c, C_letters c, C_textLength c, up2 (C_restSums c) j2 f10, C_restCosts c, C_restLengths c) u t a b m o E)) (by exact dc_Ch_matchBody 21 rfl) (by exact ag_restSums e3) e11 (by exact as_restSums e3) ?_
        refine rn_aload_n (by exact dc_Ch_matchBody 22 rfl) (by exact rfl) ?_
        refine rn_getf (v := .ref 17) fd_Ch_43 (by exact dc_Ch_matchBody 23 rfl) (by exact rfl) (by exact rfl) ?_
        refine rn_iload (by exact dc_Ch_matchBody 24 rfl) (by exact rfl) ?_
        obtain ⟨j13, e14, h15⟩ := rn_bind h12
        clear h12
        refine rn_aaload (y := 18 + j13) (by exact dc_Ch_matchBody 25 rfl) (by exact rfl) (by exact (aI_some e14).1) (by exact aq_restCosts e14) ?_
        refine rn_iload (by exact dc_Ch_matchBody 26 rfl) (by exact rfl) ?_
        refine rn_iload (by exact dc_Ch_matchBody 27 rfl) (by exact rfl) ?_
        refine rn_iload (by exact dc_Ch_matchBody 28 rfl) (by exact rfl) ?_
        obtain ⟨y16, e17, h19⟩ := rn_bind h15
        clear h15
        have jq18 : Rn Z M_Ch_matchBody 61 [some (.ref 4), some (.ref 44), some (.int l2), some (.int l3), some (.int l4), some (.int l5), some (.int l6), none, none, none] [.int y16, .int l6, .ref (18 + j13)] (emb g1 g2 x d (C_sums c, C_costs c, C_rules c, C_sizes c, C_lengths c, C_letters c, C_textLength c, up2 (C_restSums c) j2 f10, C_restCosts c, C_restLengths c) u t a b m o E) 0 0 K := by
          obtain ⟨f21, e22, h23⟩ := rn_bind h19
          clear h19
          refine rn_iastore (w2 := (emb g1 g2 x d (C_sums c, C_costs c, C_rules c, C_sizes c, C_lengths c, C_letters c, C_textLength c, up2 (C_restSums c) j2 f10, up2 (C_restCosts c) j13 f21, C_restLengths c) u t a b m o E)) (by exact dc_Ch_matchBody 33 rfl) (by exact ag_restCosts e14) e22 (by exact as_restCosts e14) ?_
          refine rn_iinc (ls' := [some (.ref 4), some (.ref 44), some (.int l2), some (.int l3), some (.int l4), some (.int l5), some (.int (l6 + 1)), none, none, none]) (by exact dc_Ch_matchBody 34 rfl) (by decide) (by exact rfl) (by exact rn_inc_1 _) (by exact rfl) ?_
          refine rn_goto 11 (by exact dc_Ch_matchBody 35 rfl) (by exact rfl) ?_
          exact rn_weak _ (by repeat (first | exact rn_le_0 | apply rn_le_s | apply rn_le_x)) (ih _ _ h23)
        by_cases c20 : ¬ l6 = l4
        · replace e17 := rn_ifp c20 e17
          refine rn_icmp_ne_t 60 (by exact dc_Ch_matchBody 29 rfl) (by exact rfl) c20 ?_
          refine rn_iconst (v := (-1 : Int32)) (by exact dc_Ch_matchBody 32 rfl) (by decide) ?_
          cases e17
          exact rn_weak _ (by repeat (first | exact rn_le_0 | apply rn_le_s | apply rn_le_x)) jq18
        · replace e17 := rn_ifn c20 e17
          refine rn_icmp_ne_f 60 (by exact dc_Ch_matchBody 29 rfl) (by exact rfl) (Classical.not_not.mp c20) ?_
          refine rn_iconst (v := (0 : Int32)) (by exact dc_Ch_matchBody 30 rfl) (by decide) ?_
          refine rn_goto 61 (by exact dc_Ch_matchBody 31 rfl) (by exact rfl) ?_
          cases e17
          exact rn_weak _ (by repeat (first | exact rn_le_0 | apply rn_le_s | apply rn_le_x)) jq18
      by_cases c9 : ¬ l6 = l4
      · replace e6 := rn_ifp c9 e6
        refine rn_icmp_ne_t 38 (by exact dc_Ch_matchBody 17 rfl) (by exact rfl) c9 ?_
        refine rn_lconst (v := (0 : Int64)) (by exact dc_Ch_matchBody 20 rfl) (by decide) ?_
        cases e6
        exact rn_weak _ (by repeat (first | exact rn_le_0 | apply rn_le_s | apply rn_le_x)) jq7
      · replace e6 := rn_ifn c9 e6
        refine rn_icmp_ne_f 38 (by exact dc_Ch_matchBody 17 rfl) (by exact rfl) (Classical.not_not.mp c9) ?_
        refine rn_lconst (v := (1 : Int64)) (by exact dc_Ch_matchBody 18 rfl) (by decide) ?_
        refine rn_goto 39 (by exact dc_Ch_matchBody 19 rfl) (by exact rfl) ?_
        cases e6
        exact rn_weak _ (by repeat (first | exact rn_le_0 | apply rn_le_s | apply rn_le_x)) jq7
set_option maxHeartbeats 4000000 in
set_option maxRecDepth 100000 in
theorem p_Ch_matchBody_L104_b {Z : rn_Z} {g1 g2 : Nat} {x : tX} {d : tD}  {u : tU} {t : tT} {a : tG} {b : tG} {m : tM} {o : tO} {E : List rn_C}  {l2 : Int32} {l3 : Int32} {l4 : Int32} {l6 : Int32} {l7 : Int32} {l8 : Int32} {K : rn_K} {cz : tC} (hx : Rn Z M_Ch_matchBody 152 [some (.ref 4), some (.ref 44), some (.int l2), some (.int l3), some (.int l4), none, some (.int l6), none, none, none] [] (emb g1 g2 x d cz u t a b m o E) 0 0 K) (n : Nat) : ∀ (c : tC) (l9 : Int32), F_Ch_matchBody_L104 l2 l3 l4 l6 l7 l8 n c l9 = some cz → Rn Z M_Ch_matchBody 104 [some (.ref 4), some (.ref 44), some (.int l2), some (.int l3), some (.int l4), none, some (.int l6), some (.int l7), some (.int l8), some (.int l9)] [] (emb g1 g2 x d c u t a b m o E) 0 0 K := by
  induction n with
  | zero =>
    intro c l9 h
    rw [F_Ch_matchBody_L104] at h
    cases h
  | succ n ih =>
    intro c l9 h
    rw [F_Ch_matchBody_L104] at h
    refine rn_iload (by exact dc_Ch_matchBody 55 rfl) (by exact rfl) ?_
    refine rn_iload (by exact dc_Ch_matchBody 56 rfl) (by exact rfl) ?_
    by_cases c1 : l8 < l9
    · replace h := rn_ifp c1 h
      refine rn_icmp_gt_t 152 (by exact dc_Ch_matchBody 57 rfl) (by exact rfl) c1 ?_
      cases h
      exact rn_weak _ (by repeat (first | exact rn_le_0 | apply rn_le_s | apply rn_le_x)) hx
    · replace h := rn_ifn c1 h
      refine rn_icmp_gt_f 152 (by exact dc_Ch_matchBody 57 rfl) (by exact rfl) c1 ?_
      refine rn_iload (by exact dc_Ch_matchBody 58 rfl) (by exact rfl) ?_
      obtain ⟨x3, e2, h4⟩ := rn_bind h
      clear h
      refine rn_invS0 (by exact c_Gr_isNonterminal e2) is_Ch_100 (by exact ⟨Nat.le_of_ble_eq_true rfl, Nat.le_of_ble_eq_true rfl⟩) (by exact dc_Ch_matchBody 59 rfl) (by exact rfl) (by exact rfl) (by exact Nat.le_of_ble_eq_true rfl) ?_
      show Rn _ _ 116 [some (.ref 4), some (.ref 44), some (.int l2), some (.int l3), some (.int l4), none, some (.int l6), some (.int l7), some (.int l8), some (.int l9)] [.int x3] (emb g1 g2 x d c u t a b m o E) _ _ _
      obtain ⟨c5, e6, h8⟩ := rn_bind h4
      clear h4
      have jq7 : Rn Z M_Ch_matchBody 146 [some (.ref 4), some (.ref 44), some (.int l2), some (.int l3), some (.int l4), none, some (.int l6), some (.int l7), some (.int l8), some (.int l9)] [] (emb g1 g2 x d c5 u t a b m o E) 0 0 K := by
        refine rn_iinc (ls' := [some (.ref 4), some (.ref 44), some (.int l2), some (.int l3), some (.int l4), none, some (.int l6), some (.int l7), some (.int l8), some (.int (l9 + 1))]) (by exact dc_Ch_matchBody 74 rfl) (by decide) (by exact rfl) (by exact rn_inc_1 _) (by exact rfl) ?_
        refine rn_goto 104 (by exact dc_Ch_matchBody 75 rfl) (by exact rfl) ?_
        exact rn_weak _ (by repeat (first | exact rn_le_0 | apply rn_le_s | apply rn_le_x)) (ih _ _ h8)
      by_cases c9 : x3 = 0
      · replace e6 := rn_ifp c9 e6
        refine rn_if_eq_t 134 (by exact dc_Ch_matchBody 60 rfl) (by exact rfl) c9 ?_
        refine rn_aload_n (by exact dc_Ch_matchBody 68 rfl) (by exact rfl) ?_
        refine rn_iload (by exact dc_Ch_matchBody 69 rfl) (by exact rfl) ?_
        refine rn_iload (by exact dc_Ch_matchBody 70 rfl) (by exact rfl) ?_
        refine rn_iload (by exact dc_Ch_matchBody 71 rfl) (by exact rfl) ?_
        refine rn_iload (by exact dc_Ch_matchBody 72 rfl) (by exact rfl) ?_
        obtain ⟨c11, e10, h12⟩ := rn_bind e6
        clear e6
        refine rn_invV0 (by exact c_Ch_matchTerminal e10) iv_Ch_108 (by exact ⟨Nat.le_of_ble_eq_true rfl, Nat.le_of_ble_eq_true rfl⟩) (by exact dc_Ch_matchBody 73 rfl) (by exact rfl) (by exact rfl) (by exact rfl) (by exact Nat.le_of_ble_eq_true rfl) ?_
        show Rn _ _ 146 [some (.ref 4), some (.ref 44), some (.int l2), some (.int l3), some (.int l4), none, some (.int l6), some (.int l7), some (.int l8), some (.int l9)] [] (emb g1 g2 x d c11 u t a b m o E) _ _ _
        cases h12
        exact rn_weak _ (by repeat (first | exact rn_le_0 | apply rn_le_s | apply rn_le_x)) jq7
      · replace e6 := rn_ifn c9 e6
        refine rn_if_eq_f 134 (by exact dc_Ch_matchBody 60 rfl) (by exact rfl) c9 ?_
        refine rn_aload_n (by exact dc_Ch_matchBody 61 rfl) (by exact rfl) ?_
        refine rn_iload (by exact dc_Ch_matchBody 62 rfl) (by exact rfl) ?_
        refine rn_iload (by exact dc_Ch_matchBody 63 rfl) (by exact rfl) ?_
        refine rn_iload (by exact dc_Ch_matchBody 64 rfl) (by exact rfl) ?_
        refine rn_iload (by exact dc_Ch_matchBody 65 rfl) (by exact rfl) ?_
        obtain ⟨c14, e13, h15⟩ := rn_bind e6
        clear e6
        refine rn_invV0 (by exact c_Ch_matchNonterminal e13) iv_Ch_104 (by exact ⟨Nat.le_of_ble_eq_true rfl, Nat.le_of_ble_eq_true rfl⟩) (by exact dc_Ch_matchBody 66 rfl) (by exact rfl) (by exact rfl) (by exact rfl) (by exact Nat.le_of_ble_eq_true rfl) ?_
        show Rn _ _ 131 [some (.ref 4), some (.ref 44), some (.int l2), some (.int l3), some (.int l4), none, some (.int l6), some (.int l7), some (.int l8), some (.int l9)] [] (emb g1 g2 x d c14 u t a b m o E) _ _ _
        refine rn_goto 146 (by exact dc_Ch_matchBody 67 rfl) (by exact rfl) ?_
        cases h15
        exact rn_weak _ (by repeat (first | exact rn_le_0 | apply rn_le_s | apply rn_le_x)) jq7
set_option maxHeartbeats 4000000 in
set_option maxRecDepth 100000 in
theorem p_Ch_matchBody_L74_b {Z : rn_Z} {g1 g2 : Nat} {x : tX} {d : tD}  {u : tU} {t : tT} {a : tG} {b : tG} {m : tM} {o : tO} {E : List rn_C}  {l2 : Int32} {l3 : Int32} {l4 : Int32} {K : rn_K} {cz : tC} (hx : Rn Z M_Ch_matchBody 158 [none, none, none, none, none, none, none, none, none, none] [] (emb g1 g2 x d cz u t a b m o E) 0 0 K) (n : Nat) : ∀ (c : tC) (l6 : Int32), F_Ch_matchBody_L74 b l2 l3 l4 n c l6 = some cz → Rn Z M_Ch_matchBody 74 [some (.ref 4), some (.ref 44), some (.int l2), some (.int l3), some (.int l4), none, some (.int l6), none, none, none] [] (emb g1 g2 x d c u t a b m o E) 0 0 K := by
  induction n with
  | zero =>
    intro c l6 h
    rw [F_Ch_matchBody_L74] at h
    cases h
  | succ n ih =>
    intro c l6 h
    rw [F_Ch_matchBody_L74] at h
    refine rn_iload (by exact dc_Ch_matchBody 40 rfl) (by exact rfl) ?_
    by_cases c1 : l6 < 0
    · replace h := rn_ifp c1 h
      refine rn_if_lt_t 158 (by exact dc_Ch_matchBody 41 rfl) (by exact rfl) c1 ?_
      cases h
      exact rn_weak _ (by repeat (first | exact rn_le_0 | apply rn_le_s | apply rn_le_x)) hx
    · replace h := rn_ifn c1 h
      refine rn_if_lt_f 158 (by exact dc_Ch_matchBody 41 rfl) (by exact rfl) c1 ?_
      refine rn_aload_n (by exact dc_Ch_matchBody 42 rfl) (by exact rfl) ?_
      refine rn_iload_n (by exact dc_Ch_matchBody 43 rfl) (by exact rfl) ?_
      refine rn_iload (by exact dc_Ch_matchBody 44 rfl) (by exact rfl) ?_
      obtain ⟨x3, e2, h4⟩ := rn_bind h
      clear h
      refine rn_invV0 (by exact c_Gr_symbol_b e2) iv_Ch_96 (by exact ⟨Nat.le_of_ble_eq_true rfl, Nat.le_of_ble_eq_true rfl⟩) (by exact dc_Ch_matchBody 45 rfl) (by exact rfl) (by exact rfl) (by exact rfl) (by exact Nat.le_of_ble_eq_true rfl) ?_
      show Rn _ _ 86 [some (.ref 4), some (.ref 44), some (.int l2), some (.int l3), some (.int l4), none, some (.int l6), none, none, none] [.int x3] (emb g1 g2 x d c u t a b m o E) _ _ _
      refine rn_istore (ls' := [some (.ref 4), some (.ref 44), some (.int l2), some (.int l3), some (.int l4), none, some (.int l6), some (.int x3), none, none]) (by exact dc_Ch_matchBody 46 rfl) (by decide) (by exact rfl) ?_
      refine rn_iload (by exact dc_Ch_matchBody 47 rfl) (by exact rfl) ?_
      obtain ⟨y5, e6, h8⟩ := rn_bind h4
      clear h4
      have jq7 : Rn Z M_Ch_matchBody 99 [some (.ref 4), some (.ref 44), some (.int l2), some (.int l3), some (.int l4), none, some (.int l6), some (.int x3), none, none] [.int y5] (emb g1 g2 x d c u t a b m o E) 0 0 K := by
        refine rn_istore (ls' := [some (.ref 4), some (.ref 44), some (.int l2), some (.int l3), some (.int l4), none, some (.int l6), some (.int x3), some (.int y5), none]) (by exact dc_Ch_matchBody 52 rfl) (by decide) (by exact rfl) ?_
        refine rn_iload_n (by exact dc_Ch_matchBody 53 rfl) (by exact rfl) ?_
        refine rn_istore (ls' := [some (.ref 4), some (.ref 44), some (.int l2), some (.int l3), some (.int l4), none, some (.int l6), some (.int x3), some (.int y5), some (.int l3)]) (by exact dc_Ch_matchBody 54 rfl) (by decide) (by exact rfl) ?_
        obtain ⟨c13, e10, h12⟩ := rn_bind h8
        clear h8
        have jx11 : Rn Z M_Ch_matchBody 152 [some (.ref 4), some (.ref 44), some (.int l2), some (.int l3), some (.int l4), none, some (.int l6), none, none, none] [] (emb g1 g2 x d c13 u t a b m o E) 0 0 K := by
          refine rn_iinc (ls' := [some (.ref 4), some (.ref 44), some (.int l2), some (.int l3), some (.int l4), none, some (.int (l6 + (-1))), none, none, none]) (by exact dc_Ch_matchBody 76 rfl) (by decide) (by exact rfl) (by exact rn_inc_m1 _) (by exact rfl) ?_
          refine rn_goto 74 (by exact dc_Ch_matchBody 77 rfl) (by exact rfl) ?_
          exact rn_weak _ (by repeat (first | exact rn_le_0 | apply rn_le_s | apply rn_le_x)) (ih _ _ h12)
        exact rn_weak _ (by repeat (first | exact rn_le_0 | apply rn_le_s | apply rn_le_x)) (p_Ch_matchBody_L104_b jx11 _ _ _ e10)
      by_cases c9 : ¬ l6 = 0
      · replace e6 := rn_ifp c9 e6
        refine rn_if_ne_t 97 (by exact dc_Ch_matchBody 48 rfl) (by exact rfl) c9 ?_
        refine rn_iload (by exact dc_Ch_matchBody 51 rfl) (by exact rfl) ?_
        cases e6
        exact rn_weak _ (by repeat (first | exact rn_le_0 | apply rn_le_s | apply rn_le_x)) jq7
      · replace e6 := rn_ifn c9 e6
        refine rn_if_ne_f 97 (by exact dc_Ch_matchBody 48 rfl) (by exact rfl) (Classical.not_not.mp c9) ?_
        refine rn_iload_n (by exact dc_Ch_matchBody 49 rfl) (by exact rfl) ?_
        refine rn_goto 99 (by exact dc_Ch_matchBody 50 rfl) (by exact rfl) ?_
        cases e6
        exact rn_weak _ (by repeat (first | exact rn_le_0 | apply rn_le_s | apply rn_le_x)) jq7
set_option maxHeartbeats 4000000 in
set_option maxRecDepth 100000 in
theorem c_Ch_matchBody_b {Z : rn_Z} {g1 g2 : Nat} {x : tX} {d : tD} {c : tC} {u : tU} {t : tT} {a : tG} {b : tG} {m : tM} {o : tO} {E : List rn_C} {v0 : Int32} {v1 : Int32} {v2 : Int32} {cR : tC} (h : F_Ch_matchBody c b v0 v1 v2 = some cR) : Call Z M_Ch_matchBody [.ref 4, .ref 44, .int v0, .int v1, .int v2] (emb g1 g2 x d c u t a b m o E) 0 0 none (emb g1 g2 x d cR u t a b m o E) := by
  unfold F_Ch_matchBody at h
  refine rn_call (by decide) 5 (by exact Nat.le_of_ble_eq_true rfl) ?_
  show Rn Z M_Ch_matchBody 0 [some (.ref 4), some (.ref 44), some (.int v0), some (.int v1), some (.int v2), none, none, none, none, none] [] (emb g1 g2 x d c u t a b m o E) 0 0 _
  refine rn_aload_n (by exact dc_Ch_matchBody 0 rfl) (by exact rfl) ?_
  refine rn_getf (v := .ref 47) fd_Ch_93 (by exact dc_Ch_matchBody 1 rfl) (by exact rfl) (by exact rfl) ?_
  refine rn_iload_n (by exact dc_Ch_matchBody 2 rfl) (by exact rfl) ?_
  obtain ⟨x1, e2, h3⟩ := rn_bind h
  clear h
  refine rn_iaload (by exact dc_Ch_matchBody 3 rfl) (by exact rfl) e2 ?_
  refine rn_istore (ls' := [some (.ref 4), some (.ref 44), some (.int v0), some (.int v1), some (.int v2), some (.int x1), none, none, none, none]) (by exact dc_Ch_matchBody 4 rfl) (by decide) (by exact rfl) ?_
  refine rn_iload_n (by exact dc_Ch_matchBody 5 rfl) (by exact rfl) ?_
  refine rn_istore (ls' := [some (.ref 4), some (.ref 44), some (.int v0), some (.int v1), some (.int v2), some (.int x1), some (.int v1), none, none, none]) (by exact dc_Ch_matchBody 6 rfl) (by decide) (by exact rfl) ?_
  obtain ⟨c7, e4, h6⟩ := rn_bind h3
  clear h3
  have jx5 : Rn Z M_Ch_matchBody 68 [some (.ref 4), some (.ref 44), some (.int v0), some (.int v1), some (.int v2), some (.int x1), none, none, none, none] [] (emb g1 g2 x d c7 u t a b m o E) 0 0 (rn_Ret Z none (emb g1 g2 x d cR u t a b m o E)) := by
    refine rn_iload (by exact dc_Ch_matchBody 36 rfl) (by exact rfl) ?_
    refine rn_iconst (v := (1 : Int32)) (by exact dc_Ch_matchBody 37 rfl) (by decide) ?_
    refine rn_isub (by exact dc_Ch_matchBody 38 rfl) ?_
    refine rn_istore (ls' := [some (.ref 4), some (.ref 44), some (.int v0), some (.int v1), some (.int v2), some (.int x1), some (.int (x1 - (1 : Int32))), none, none, none]) (by exact dc_Ch_matchBody 39 rfl) (by decide) (by exact rfl) ?_
    obtain ⟨c11, e8, h10⟩ := rn_bind h6
    clear h6
    have jx9 : Rn Z M_Ch_matchBody 158 [none, none, none, none, none, none, none, none, none, none] [] (emb g1 g2 x d c11 u t a b m o E) 0 0 (rn_Ret Z none (emb g1 g2 x d cR u t a b m o E)) := by
      cases h10
      exact rn_return (by exact dc_Ch_matchBody 78 rfl) (by exact rfl)
    exact rn_weak _ (by repeat (first | exact rn_le_0 | apply rn_le_s | apply rn_le_x)) (p_Ch_matchBody_L74_b jx9 _ _ _ e8)
  exact rn_weak _ (by repeat (first | exact rn_le_0 | apply rn_le_s | apply rn_le_x)) (p_Ch_matchBody_L11_b jx5 _ _ _ e4)
end
section
set_option maxHeartbeats 4000000 in
set_option maxRecDepth 100000 in
theorem p_Ch_keepBody_L13_b {Z : rn_Z} {g1 g2 : Nat} {x : tX} {d : tD} {c : tC} {u : tU} {t : tT} {a : tG} {b : tG} {m : tM} {o : tO} {E : List rn_C}  {l2 : Int32} {l3 : Int32} {K : rn_K} {z6 : Int32} {z7 : Int32} (hx : Rn Z M_Ch_keepBody 100 [some (.ref 4), none, none, some (.int l3), none, none, some (.int z6), some (.int z7), none, none, none] [] (emb g1 g2 x d c u t a b m o E) 0 0 K) (n : Nat) : ∀ (l5 : Int32) (l6 : Int32) (l7 : Int32) (l8 : Int32), F_Ch_keepBody_L13 c b l2 l3 n l5 l6 l7 l8 = some (z6, z7) → Rn Z M_Ch_keepBody 13 [some (.ref 4), some (.ref 44), some (.int l2), some (.int l3), none, some (.int l5), some (.int l6), some (.int l7), some (.int l8), none, none] [] (emb g1 g2 x d c u t a b m o E) 0 0 K := by
  induction n with
  | zero =>
    intro l5 l6 l7 l8 h
    rw [F_Ch_keepBody_L13] at h
    cases h
  | succ n ih =>
    intro l5 l6 l7 l8 h
    rw [F_Ch_keepBody_L13] at h
    refine rn_iload (by exact dc_Ch_keepBody 8 rfl) (by exact rfl) ?_
    refine rn_aload_n (by exact dc_Ch_keepBody 9 rfl) (by exact rfl) ?_
    refine rn_getf (v := .ref 47) fd_Ch_93 (by exact dc_Ch_keepBody 10 rfl) (by exact rfl) (by exact rfl) ?_
    refine rn_iload_n (by exact dc_Ch_keepBody 11 rfl) (by exact rfl) ?_
    obtain ⟨x1, e2, h3⟩ := rn_bind h
    clear h
    refine rn_iaload (by exact dc_Ch_keepBody 12 rfl) (by exact rfl) e2 ?_
    by_cases c4 : x1 ≤ l8
    · replace h3 := rn_ifp c4 h3
      refine rn_icmp_ge_t 100 (by exact dc_Ch_keepBody 13 rfl) (by exact rfl) c4 ?_
      cases h3
      exact rn_weak _ (by repeat (first | exact rn_le_0 | apply rn_le_s | apply rn_le_x)) hx
    · replace h3 := rn_ifn c4 h3
      refine rn_icmp_ge_f 100 (by exact dc_Ch_keepBody 13 rfl) (by exact rfl) c4 ?_
      refine rn_aload_n (by exact dc_Ch_keepBody 14 rfl) (by exact rfl) ?_
      refine rn_getf (v := .ref 23) fd_Ch_46 (by exact dc_Ch_keepBody 15 rfl) (by exact rfl) (by exact rfl) ?_
      refine rn_iload (by exact dc_Ch_keepBody 16 rfl) (by exact rfl) ?_
      obtain ⟨j5, e6, h7⟩ := rn_bind h3
      clear h3
      refine rn_aaload (y := 24 + j5) (by exact dc_Ch_keepBody 17 rfl) (by exact rfl) (by exact (aI_some e6).1) (by exact aq_restLengths e6) ?_
      refine rn_iload (by exact dc_Ch_keepBody 18 rfl) (by exact rfl) ?_
      obtain ⟨x8, e9, h10⟩ := rn_bind h7
      clear h7
      refine rn_iaload (by exact dc_Ch_keepBody 19 rfl) (by exact ag_restLengths e6) e9 ?_
      refine rn_istore (ls' := [some (.ref 4), some (.ref 44), some (.int l2), some (.int l3), none, some (.int l5), some (.int l6), some (.int l7), some (.int l8), some (.int x8), none]) (by exact dc_Ch_keepBody 20 rfl) (by decide) (by exact rfl) ?_
      refine rn_aload_n (by exact dc_Ch_keepBody 21 rfl) (by exact rfl) ?_
      refine rn_iload_n (by exact dc_Ch_keepBody 22 rfl) (by exact rfl) ?_
      refine rn_iload (by exact dc_Ch_keepBody 23 rfl) (by exact rfl) ?_
      obtain ⟨x12, e11, h13⟩ := rn_bind h10
      clear h10
      refine rn_invV0 (by exact c_Gr_symbol_b e11) iv_Ch_96 (by exact ⟨Nat.le_of_ble_eq_true rfl, Nat.le_of_ble_eq_true rfl⟩) (by exact dc_Ch_keepBody 24 rfl) (by exact rfl) (by exact rfl) (by exact rfl) (by exact Nat.le_of_ble_eq_true rfl) ?_
      show Rn _ _ 43 [some (.ref 4), some (.ref 44), some (.int l2), some (.int l3), none, some (.int l5), some (.int l6), some (.int l7), some (.int l8), some (.int x8), none] [.int x12] (emb g1 g2 x d c u t a b m o E) _ _ _
      refine rn_istore (ls' := [some (.ref 4), some (.ref 44), some (.int l2), some (.int l3), none, some (.int l5), some (.int l6), some (.int l7), some (.int l8), some (.int x8), some (.int x12)]) (by exact dc_Ch_keepBody 25 rfl) (by decide) (by exact rfl) ?_
      refine rn_iload (by exact dc_Ch_keepBody 26 rfl) (by exact rfl) ?_
      obtain ⟨x15, e14, h16⟩ := rn_bind h13
      clear h13
      refine rn_invS0 (by exact c_Gr_isNonterminal e14) is_Ch_100 (by exact ⟨Nat.le_of_ble_eq_true rfl, Nat.le_of_ble_eq_true rfl⟩) (by exact dc_Ch_keepBody 27 rfl) (by exact rfl) (by exact rfl) (by exact Nat.le_of_ble_eq_true rfl) ?_
      show Rn _ _ 50 [some (.ref 4), some (.ref 44), some (.int l2), some (.int l3), none, some (.int l5), some (.int l6), some (.int l7), some (.int l8), some (.int x8), some (.int x12)] [.int x15] (emb g1 g2 x d c u t a b m o E) _ _ _
      obtain ⟨y17, e18, h20⟩ := rn_bind h16
      clear h16
      have jq19 : Rn Z M_Ch_keepBody 75 [some (.ref 4), some (.ref 44), some (.int l2), some (.int l3), none, some (.int l5), some (.int y17), some (.int l7), some (.int l8), some (.int x8), none] [] (emb g1 g2 x d c u t a b m o E) 0 0 K := by
        refine rn_iload (by exact dc_Ch_keepBody 41 rfl) (by exact rfl) ?_
        refine rn_iload (by exact dc_Ch_keepBody 42 rfl) (by exact rfl) ?_
        refine rn_iconst (v := (4 : Int32)) (by exact dc_Ch_keepBody 43 rfl) (by decide) ?_
        refine rn_iload (by exact dc_Ch_keepBody 44 rfl) (by exact rfl) ?_
        refine rn_imul (by exact dc_Ch_keepBody 45 rfl) ?_
        refine rn_ishl (by exact dc_Ch_keepBody 46 rfl) ?_
        refine rn_ior (by exact dc_Ch_keepBody 47 rfl) ?_
        refine rn_istore (ls' := [some (.ref 4), some (.ref 44), some (.int l2), some (.int l3), none, some (.int l5), some (.int y17), some (.int (l7 ||| (x8 <<< (((4 : Int32) * l8) &&& 31)))), some (.int l8), some (.int x8), none]) (by exact dc_Ch_keepBody 48 rfl) (by decide) (by exact rfl) ?_
        refine rn_iload (by exact dc_Ch_keepBody 49 rfl) (by exact rfl) ?_
        refine rn_iload (by exact dc_Ch_keepBody 50 rfl) (by exact rfl) ?_
        refine rn_iadd (by exact dc_Ch_keepBody 51 rfl) ?_
        refine rn_istore (ls' := [some (.ref 4), some (.ref 44), some (.int l2), some (.int l3), none, some (.int (l5 + x8)), some (.int y17), some (.int (l7 ||| (x8 <<< (((4 : Int32) * l8) &&& 31)))), some (.int l8), some (.int x8), none]) (by exact dc_Ch_keepBody 52 rfl) (by decide) (by exact rfl) ?_
        refine rn_iinc (ls' := [some (.ref 4), some (.ref 44), some (.int l2), some (.int l3), none, some (.int (l5 + x8)), some (.int y17), some (.int (l7 ||| (x8 <<< (((4 : Int32) * l8) &&& 31)))), some (.int (l8 + 1)), some (.int x8), none]) (by exact dc_Ch_keepBody 53 rfl) (by decide) (by exact rfl) (by exact rn_inc_1 _) (by exact rfl) ?_
        refine rn_goto 13 (by exact dc_Ch_keepBody 54 rfl) (by exact rfl) ?_
        exact rn_weak _ (by repeat (first | exact rn_le_0 | apply rn_le_s | apply rn_le_x)) (ih _ _ _ _ h20)
      by_cases c21 : x15 = 0
      · replace e18 := rn_ifp c21 e18
        refine rn_if_eq_t 75 (by exact dc_Ch_keepBody 28 rfl) (by exact rfl) c21 ?_
        cases e18
        exact rn_weak _ (by repeat (first | exact rn_le_0 | apply rn_le_s | apply rn_le_x)) jq19
      · replace e18 := rn_ifn c21 e18
        refine rn_if_eq_f 75 (by exact dc_Ch_keepBody 28 rfl) (by exact rfl) c21 ?_
        refine rn_iload (by exact dc_Ch_keepBody 29 rfl) (by exact rfl) ?_
        refine rn_aload_n (by exact dc_Ch_keepBody 30 rfl) (by exact rfl) ?_
        refine rn_getf (v := .ref 8) fd_Ch_22 (by exact dc_Ch_keepBody 31 rfl) (by exact rfl) (by exact rfl) ?_
        refine rn_iload (by exact dc_Ch_keepBody 32 rfl) (by exact rfl) ?_
        refine rn_iload (by exact dc_Ch_keepBody 33 rfl) (by exact rfl) ?_
        refine rn_iload (by exact dc_Ch_keepBody 34 rfl) (by exact rfl) ?_
        refine rn_iload (by exact dc_Ch_keepBody 35 rfl) (by exact rfl) ?_
        refine rn_iadd (by exact dc_Ch_keepBody 36 rfl) ?_
        obtain ⟨x23, e22, h24⟩ := rn_bind e18
        clear e18
        refine rn_invS0 (by exact c_Ch_cell e22) is_Ch_49 (by exact ⟨Nat.le_of_ble_eq_true rfl, Nat.le_of_ble_eq_true rfl⟩) (by exact dc_Ch_keepBody 37 rfl) (by exact rfl) (by exact rfl) (by exact Nat.le_of_ble_eq_true rfl) ?_
        show Rn _ _ 71 [some (.ref 4), some (.ref 44), some (.int l2), some (.int l3), none, some (.int l5), some (.int l6), some (.int l7), some (.int l8), some (.int x8), some (.int x12)] [.int x23, .ref 8, .int l6] (emb g1 g2 x d c u t a b m o E) _ _ _
        obtain ⟨x25, e26, h27⟩ := rn_bind h24
        clear h24
        refine rn_iaload (by exact dc_Ch_keepBody 38 rfl) (by exact rfl) e26 ?_
        refine rn_iadd (by exact dc_Ch_keepBody 39 rfl) ?_
        refine rn_istore (ls' := [some (.ref 4), some (.ref 44), some (.int l2), some (.int l3), none, some (.int l5), some (.int (l6 + x25)), some (.int l7), some (.int l8), some (.int x8), some (.int x12)]) (by exact dc_Ch_keepBody 40 rfl) (by decide) (by exact rfl) ?_
        cases h27
        exact rn_weak _ (by repeat (first | exact rn_le_0 | apply rn_le_s | apply rn_le_x)) jq19
set_option maxHeartbeats 4000000 in
set_option maxRecDepth 100000 in
theorem c_Ch_keepBody_b {Z : rn_Z} {g1 g2 : Nat} {x : tX} {d : tD} {c : tC} {u : tU} {t : tT} {a : tG} {b : tG} {m : tM} {o : tO} {E : List rn_C} {v0 : Int32} {v1 : Int32} {v2 : Int32} {cR : tC} (h : F_Ch_keepBody c b v0 v1 v2 = some cR) : Call Z M_Ch_keepBody [.ref 4, .ref 44, .int v0, .int v1, .int v2] (emb g1 g2 x d c u t a b m o E) 0 0 none (emb g1 g2 x d cR u t a b m o E) := by
  unfold F_Ch_keepBody at h
  refine rn_call (by decide) 6 (by exact Nat.le_of_ble_eq_true rfl) ?_
  show Rn Z M_Ch_keepBody 0 [some (.ref 4), some (.ref 44), some (.int v0), some (.int v1), some (.int v2), none, none, none, none, none, none] [] (emb g1 g2 x d c u t a b m o E) 0 0 _
  refine rn_iload (by exact dc_Ch_keepBody 0 rfl) (by exact rfl) ?_
  refine rn_istore (ls' := [some (.ref 4), some (.ref 44), some (.int v0), some (.int v1), some (.int v2), some (.int v2), none, none, none, none, none]) (by exact dc_Ch_keepBody 1 rfl) (by decide) (by exact rfl) ?_
  refine rn_iconst (v := (1 : Int32)) (by exact dc_Ch_keepBody 2 rfl) (by decide) ?_
  refine rn_istore (ls' := [some (.ref 4), some (.ref 44), some (.int v0), some (.int v1), some (.int v2), some (.int v2), some (.int (1 : Int32)), none, none, none, none]) (by exact dc_Ch_keepBody 3 rfl) (by decide) (by exact rfl) ?_
  refine rn_iconst (v := (0 : Int32)) (by exact dc_Ch_keepBody 4 rfl) (by decide) ?_
  refine rn_istore (ls' := [some (.ref 4), some (.ref 44), some (.int v0), some (.int v1), some (.int v2), some (.int v2), some (.int (1 : Int32)), some (.int (0 : Int32)), none, none, none]) (by exact dc_Ch_keepBody 5 rfl) (by decide) (by exact rfl) ?_
  refine rn_iconst (v := (0 : Int32)) (by exact dc_Ch_keepBody 6 rfl) (by decide) ?_
  refine rn_istore (ls' := [some (.ref 4), some (.ref 44), some (.int v0), some (.int v1), some (.int v2), some (.int v2), some (.int (1 : Int32)), some (.int (0 : Int32)), some (.int (0 : Int32)), none, none]) (by exact dc_Ch_keepBody 7 rfl) (by decide) (by exact rfl) ?_
  obtain ⟨⟨y4, y5⟩, e1, h3⟩ := rn_bind h
  clear h
  dsimp only at h3
  have jx2 : Rn Z M_Ch_keepBody 100 [some (.ref 4), none, none, some (.int v1), none, none, some (.int y4), some (.int y5), none, none, none] [] (emb g1 g2 x d c u t a b m o E) 0 0 (rn_Ret Z none (emb g1 g2 x d cR u t a b m o E)) := by
    refine rn_aload_n (by exact dc_Ch_keepBody 55 rfl) (by exact rfl) ?_
    refine rn_getf (v := .ref 8) fd_Ch_22 (by exact dc_Ch_keepBody 56 rfl) (by exact rfl) (by exact rfl) ?_
    refine rn_iload_n (by exact dc_Ch_keepBody 57 rfl) (by exact rfl) ?_
    refine rn_iload (by exact dc_Ch_keepBody 58 rfl) (by exact rfl) ?_
    obtain ⟨f6, e7, h8⟩ := rn_bind h3
    clear h3
    refine rn_iastore (w2 := (emb g1 g2 x d (C_sums c, C_costs c, C_rules c, f6, C_lengths c, C_letters c, C_textLength c, C_restSums c, C_restCosts c, C_restLengths c) u t a b m o E)) (by exact dc_Ch_keepBody 59 rfl) (by exact rfl) e7 (by exact rfl) ?_
    refine rn_aload_n (by exact dc_Ch_keepBody 60 rfl) (by exact rfl) ?_
    refine rn_getf (v := .ref 9) fd_Ch_25 (by exact dc_Ch_keepBody 61 rfl) (by exact rfl) (by exact rfl) ?_
    refine rn_iload_n (by exact dc_Ch_keepBody 62 rfl) (by exact rfl) ?_
    refine rn_iload (by exact dc_Ch_keepBody 63 rfl) (by exact rfl) ?_
    obtain ⟨f9, e10, h11⟩ := rn_bind h8
    clear h8
    refine rn_iastore (w2 := (emb g1 g2 x d (C_sums c, C_costs c, C_rules c, f6, f9, C_letters c, C_textLength c, C_restSums c, C_restCosts c, C_restLengths c) u t a b m o E)) (by exact dc_Ch_keepBody 64 rfl) (by exact rfl) e10 (by exact rfl) ?_
    cases h11
    exact rn_return (by exact dc_Ch_keepBody 65 rfl) (by exact rfl)
  exact rn_weak _ (by repeat (first | exact rn_le_0 | apply rn_le_s | apply rn_le_x)) (p_Ch_keepBody_L13_b jx2 _ _ _ _ _ e1)
set_option maxHeartbeats 4000000 in
set_option maxRecDepth 100000 in
theorem c_Ch_addRule_b {Z : rn_Z} {g1 g2 : Nat} {x : tX} {d : tD} {c : tC} {u : tU} {t : tT} {a : tG} {b : tG} {m : tM} {o : tO} {E : List rn_C} {v0 : Int32} {v1 : Int32} {v2 : Int32} {cR : tC} (h : F_Ch_addRule c b v0 v1 v2 = some cR) : Call Z M_Ch_addRule [.ref 4, .ref 44, .int v0, .int v1, .int v2] (emb g1 g2 x d c u t a b m o E) 0 0 none (emb g1 g2 x d cR u t a b m o E) := by
  unfold F_Ch_addRule at h
  refine rn_call (by decide) 2 (by exact Nat.le_of_ble_eq_true rfl) ?_
  show Rn Z M_Ch_addRule 0 [some (.ref 4), some (.ref 44), some (.int v0), some (.int v1), some (.int v2), none, none] [] (emb g1 g2 x d c u t a b m o E) 0 0 _
  refine rn_aload_n (by exact dc_Ch_addRule 0 rfl) (by exact rfl) ?_
  refine rn_aload_n (by exact dc_Ch_addRule 1 rfl) (by exact rfl) ?_
  refine rn_iload_n (by exact dc_Ch_addRule 2 rfl) (by exact rfl) ?_
  refine rn_iload_n (by exact dc_Ch_addRule 3 rfl) (by exact rfl) ?_
  refine rn_iload (by exact dc_Ch_addRule 4 rfl) (by exact rfl) ?_
  obtain ⟨c2, e1, h3⟩ := rn_bind h
  clear h
  refine rn_invV0 (by exact c_Ch_matchBody_b e1) iv_Ch_83 (by exact ⟨Nat.le_of_ble_eq_true rfl, Nat.le_of_ble_eq_true rfl⟩) (by exact dc_Ch_addRule 5 rfl) (by exact rfl) (by exact rfl) (by exact rfl) (by exact Nat.le_of_ble_eq_true rfl) ?_
  show Rn _ _ 9 [some (.ref 4), some (.ref 44), some (.int v0), some (.int v1), some (.int v2), none, none] [] (emb g1 g2 x d c2 u t a b m o E) _ _ _
  refine rn_aload_n (by exact dc_Ch_addRule 6 rfl) (by exact rfl) ?_
  refine rn_getf (v := .ref 17) fd_Ch_43 (by exact dc_Ch_addRule 7 rfl) (by exact rfl) (by exact rfl) ?_
  refine rn_iconst (v := (0 : Int32)) (by exact dc_Ch_addRule 8 rfl) (by decide) ?_
  obtain ⟨j4, e5, h6⟩ := rn_bind h3
  clear h3
  refine rn_aaload (y := 18 + j4) (by exact dc_Ch_addRule 9 rfl) (by exact rfl) (by exact (aI_some e5).1) (by exact aq_restCosts e5) ?_
  refine rn_iload_n (by exact dc_Ch_addRule 10 rfl) (by exact rfl) ?_
  obtain ⟨x7, e8, h9⟩ := rn_bind h6
  clear h6
  refine rn_iaload (by exact dc_Ch_addRule 11 rfl) (by exact ag_restCosts e5) e8 ?_
  refine rn_iconst (v := (-1 : Int32)) (by exact dc_Ch_addRule 12 rfl) (by decide) ?_
  by_cases c10 : ¬ x7 = (-1 : Int32)
  · replace h9 := rn_ifp c10 h9
    refine rn_icmp_ne_t 22 (by exact dc_Ch_addRule 13 rfl) (by exact rfl) c10 ?_
    refine rn_aload_n (by exact dc_Ch_addRule 15 rfl) (by exact rfl) ?_
    refine rn_getf (v := .ref 45) fd_Ch_73 (by exact dc_Ch_addRule 16 rfl) (by exact rfl) (by exact rfl) ?_
    refine rn_iload_n (by exact dc_Ch_addRule 17 rfl) (by exact rfl) ?_
    obtain ⟨x11, e12, h13⟩ := rn_bind h9
    clear h9
    refine rn_iaload (by exact dc_Ch_addRule 18 rfl) (by exact rfl) e12 ?_
    refine rn_iload_n (by exact dc_Ch_addRule 19 rfl) (by exact rfl) ?_
    refine rn_iload (by exact dc_Ch_addRule 20 rfl) (by exact rfl) ?_
    obtain ⟨x15, e14, h16⟩ := rn_bind h13
    clear h13
    refine rn_invS0 (by exact c_Ch_cell e14) is_Ch_49 (by exact ⟨Nat.le_of_ble_eq_true rfl, Nat.le_of_ble_eq_true rfl⟩) (by exact dc_Ch_addRule 21 rfl) (by exact rfl) (by exact rfl) (by exact Nat.le_of_ble_eq_true rfl) ?_
    show Rn _ _ 34 [some (.ref 4), some (.ref 44), some (.int v0), some (.int v1), some (.int v2), none, none] [.int x15] (emb g1 g2 x d c2 u t a b m o E) _ _ _
    refine rn_istore (ls' := [some (.ref 4), some (.ref 44), some (.int v0), some (.int v1), some (.int v2), some (.int x15), none]) (by exact dc_Ch_addRule 22 rfl) (by decide) (by exact rfl) ?_
    refine rn_aload_n (by exact dc_Ch_addRule 23 rfl) (by exact rfl) ?_
    refine rn_getf (v := .ref 5) fd_Ch_11 (by exact dc_Ch_addRule 24 rfl) (by exact rfl) (by exact rfl) ?_
    refine rn_iload (by exact dc_Ch_addRule 25 rfl) (by exact rfl) ?_
    refine rn_dup2 (by exact dc_Ch_addRule 26 rfl) (by exact rfl) (by exact rfl) ?_
    obtain ⟨x17, e18, h19⟩ := rn_bind h16
    clear h16
    refine rn_laload (by exact dc_Ch_addRule 27 rfl) (by exact rfl) e18 ?_
    refine rn_aload_n (by exact dc_Ch_addRule 28 rfl) (by exact rfl) ?_
    refine rn_getf (v := .ref 48) fd_Ch_86 (by exact dc_Ch_addRule 29 rfl) (by exact rfl) (by exact rfl) ?_
    refine rn_iload_n (by exact dc_Ch_addRule 30 rfl) (by exact rfl) ?_
    obtain ⟨x20, e21, h22⟩ := rn_bind h19
    clear h19
    refine rn_laload (by exact dc_Ch_addRule 31 rfl) (by exact rfl) e21 ?_
    refine rn_aload_n (by exact dc_Ch_addRule 32 rfl) (by exact rfl) ?_
    refine rn_getf (v := .ref 11) fd_Ch_38 (by exact dc_Ch_addRule 33 rfl) (by exact rfl) (by exact rfl) ?_
    refine rn_iconst (v := (0 : Int32)) (by exact dc_Ch_addRule 34 rfl) (by decide) ?_
    obtain ⟨j23, e24, h25⟩ := rn_bind h22
    clear h22
    refine rn_aaload (y := 12 + j23) (by exact dc_Ch_addRule 35 rfl) (by exact rfl) (by exact (aI_some e24).1) (by exact aq_restSums e24) ?_
    refine rn_iload_n (by exact dc_Ch_addRule 36 rfl) (by exact rfl) ?_
    obtain ⟨x26, e27, h28⟩ := rn_bind h25
    clear h25
    refine rn_laload (by exact dc_Ch_addRule 37 rfl) (by exact ag_restSums e24) e27 ?_
    refine rn_lmul (by exact dc_Ch_addRule 38 rfl) ?_
    refine rn_ladd (by exact dc_Ch_addRule 39 rfl) ?_
    obtain ⟨f29, e30, h31⟩ := rn_bind h28
    clear h28
    refine rn_lastore (w2 := (emb g1 g2 x d (f29, C_costs c2, C_rules c2, C_sizes c2, C_lengths c2, C_letters c2, C_textLength c2, C_restSums c2, C_restCosts c2, C_restLengths c2) u t a b m o E)) (by exact dc_Ch_addRule 40 rfl) (by exact rfl) e30 (by exact rfl) ?_
    refine rn_aload_n (by exact dc_Ch_addRule 41 rfl) (by exact rfl) ?_
    refine rn_getf (v := .ref 49) fd_Ch_89 (by exact dc_Ch_addRule 42 rfl) (by exact rfl) (by exact rfl) ?_
    refine rn_iload_n (by exact dc_Ch_addRule 43 rfl) (by exact rfl) ?_
    obtain ⟨x32, e33, h34⟩ := rn_bind h31
    clear h31
    refine rn_iaload (by exact dc_Ch_addRule 44 rfl) (by exact rfl) e33 ?_
    refine rn_aload_n (by exact dc_Ch_addRule 45 rfl) (by exact rfl) ?_
    refine rn_getf (v := .ref 17) fd_Ch_43 (by exact dc_Ch_addRule 46 rfl) (by exact rfl) (by exact rfl) ?_
    refine rn_iconst (v := (0 : Int32)) (by exact dc_Ch_addRule 47 rfl) (by decide) ?_
    obtain ⟨j35, e36, h37⟩ := rn_bind h34
    clear h34
    refine rn_aaload (y := 18 + j35) (by exact dc_Ch_addRule 48 rfl) (by exact rfl) (by exact (aI_some e36).1) (by exact aq_restCosts e36) ?_
    refine rn_iload_n (by exact dc_Ch_addRule 49 rfl) (by exact rfl) ?_
    obtain ⟨x38, e39, h40⟩ := rn_bind h37
    clear h37
    refine rn_iaload (by exact dc_Ch_addRule 50 rfl) (by exact ag_restCosts e36) e39 ?_
    refine rn_iadd (by exact dc_Ch_addRule 51 rfl) ?_
    refine rn_istore (ls' := [some (.ref 4), some (.ref 44), some (.int v0), some (.int v1), some (.int v2), some (.int x15), some (.int (x32 + x38))]) (by exact dc_Ch_addRule 52 rfl) (by decide) (by exact rfl) ?_
    refine rn_aload_n (by exact dc_Ch_addRule 53 rfl) (by exact rfl) ?_
    refine rn_getf (v := .ref 6) fd_Ch_15 (by exact dc_Ch_addRule 54 rfl) (by exact rfl) (by exact rfl) ?_
    refine rn_iload (by exact dc_Ch_addRule 55 rfl) (by exact rfl) ?_
    obtain ⟨x41, e42, h43⟩ := rn_bind h40
    clear h40
    refine rn_iaload (by exact dc_Ch_addRule 56 rfl) (by exact rfl) e42 ?_
    refine rn_iconst (v := (-1 : Int32)) (by exact dc_Ch_addRule 57 rfl) (by decide) ?_
    obtain ⟨c44, e45, h47⟩ := rn_bind h43
    clear h43
    have jq46 : Rn Z M_Ch_addRule 127 [none, none, none, none, none, none, none] [] (emb g1 g2 x d c44 u t a b m o E) 0 0 (rn_Ret Z none (emb g1 g2 x d cR u t a b m o E)) := by
      cases h47
      exact rn_return (by exact dc_Ch_addRule 81 rfl) (by exact rfl)
    by_cases c48 : x41 = (-1 : Int32)
    · replace e45 := rn_ifp c48 e45
      refine rn_icmp_eq_t 101 (by exact dc_Ch_addRule 58 rfl) (by exact rfl) c48 ?_
      refine rn_aload_n (by exact dc_Ch_addRule 65 rfl) (by exact rfl) ?_
      refine rn_getf (v := .ref 6) fd_Ch_15 (by exact dc_Ch_addRule 66 rfl) (by exact rfl) (by exact rfl) ?_
      refine rn_iload (by exact dc_Ch_addRule 67 rfl) (by exact rfl) ?_
      refine rn_iload (by exact dc_Ch_addRule 68 rfl) (by exact rfl) ?_
      obtain ⟨f49, e50, h51⟩ := rn_bind e45
      clear e45
      refine rn_iastore (w2 := (emb g1 g2 x d (f29, f49, C_rules c2, C_sizes c2, C_lengths c2, C_letters c2, C_textLength c2, C_restSums c2, C_restCosts c2, C_restLengths c2) u t a b m o E)) (by exact dc_Ch_addRule 69 rfl) (by exact rfl) e50 (by exact rfl) ?_
      refine rn_aload_n (by exact dc_Ch_addRule 70 rfl) (by exact rfl) ?_
      refine rn_getf (v := .ref 7) fd_Ch_19 (by exact dc_Ch_addRule 71 rfl) (by exact rfl) (by exact rfl) ?_
      refine rn_iload (by exact dc_Ch_addRule 72 rfl) (by exact rfl) ?_
      refine rn_iload_n (by exact dc_Ch_addRule 73 rfl) (by exact rfl) ?_
      obtain ⟨f52, e53, h54⟩ := rn_bind h51
      clear h51
      refine rn_iastore (w2 := (emb g1 g2 x d (f29, f49, f52, C_sizes c2, C_lengths c2, C_letters c2, C_textLength c2, C_restSums c2, C_restCosts c2, C_restLengths c2) u t a b m o E)) (by exact dc_Ch_addRule 74 rfl) (by exact rfl) e53 (by exact rfl) ?_
      refine rn_aload_n (by exact dc_Ch_addRule 75 rfl) (by exact rfl) ?_
      refine rn_aload_n (by exact dc_Ch_addRule 76 rfl) (by exact rfl) ?_
      refine rn_iload_n (by exact dc_Ch_addRule 77 rfl) (by exact rfl) ?_
      refine rn_iload (by exact dc_Ch_addRule 78 rfl) (by exact rfl) ?_
      refine rn_iload_n (by exact dc_Ch_addRule 79 rfl) (by exact rfl) ?_
      obtain ⟨c56, e55, h57⟩ := rn_bind h54
      clear h54
      refine rn_invV0 (by exact c_Ch_keepBody_b e55) iv_Ch_90 (by exact ⟨Nat.le_of_ble_eq_true rfl, Nat.le_of_ble_eq_true rfl⟩) (by exact dc_Ch_addRule 80 rfl) (by exact rfl) (by exact rfl) (by exact rfl) (by exact Nat.le_of_ble_eq_true rfl) ?_
      show Rn _ _ 127 [some (.ref 4), some (.ref 44), some (.int v0), some (.int v1), some (.int v2), some (.int x15), some (.int (x32 + x38))] [] (emb g1 g2 x d c56 u t a b m o E) _ _ _
      cases h57
      exact rn_weak _ (by repeat (first | exact rn_le_0 | apply rn_le_s | apply rn_le_x)) jq46
    · replace e45 := rn_ifn c48 e45
      refine rn_icmp_eq_f 101 (by exact dc_Ch_addRule 58 rfl) (by exact rfl) c48 ?_
      refine rn_iload (by exact dc_Ch_addRule 59 rfl) (by exact rfl) ?_
      refine rn_aload_n (by exact dc_Ch_addRule 60 rfl) (by exact rfl) ?_
      refine rn_getf (v := .ref 6) fd_Ch_15 (by exact dc_Ch_addRule 61 rfl) (by exact rfl) (by exact rfl) ?_
      refine rn_iload (by exact dc_Ch_addRule 62 rfl) (by exact rfl) ?_
      obtain ⟨x58, e59, h60⟩ := rn_bind e45
      clear e45
      refine rn_iaload (by exact dc_Ch_addRule 63 rfl) (by exact rfl) e59 ?_
      by_cases c61 : x58 ≤ (x32 + x38)
      · replace h60 := rn_ifp c61 h60
        refine rn_icmp_ge_t 127 (by exact dc_Ch_addRule 64 rfl) (by exact rfl) c61 ?_
        cases h60
        exact rn_weak _ (by repeat (first | exact rn_le_0 | apply rn_le_s | apply rn_le_x)) jq46
      · replace h60 := rn_ifn c61 h60
        refine rn_icmp_ge_f 127 (by exact dc_Ch_addRule 64 rfl) (by exact rfl) c61 ?_
        refine rn_aload_n (by exact dc_Ch_addRule 65 rfl) (by exact rfl) ?_
        refine rn_getf (v := .ref 6) fd_Ch_15 (by exact dc_Ch_addRule 66 rfl) (by exact rfl) (by exact rfl) ?_
        refine rn_iload (by exact dc_Ch_addRule 67 rfl) (by exact rfl) ?_
        refine rn_iload (by exact dc_Ch_addRule 68 rfl) (by exact rfl) ?_
        obtain ⟨f62, e63, h64⟩ := rn_bind h60
        clear h60
        refine rn_iastore (w2 := (emb g1 g2 x d (f29, f62, C_rules c2, C_sizes c2, C_lengths c2, C_letters c2, C_textLength c2, C_restSums c2, C_restCosts c2, C_restLengths c2) u t a b m o E)) (by exact dc_Ch_addRule 69 rfl) (by exact rfl) e63 (by exact rfl) ?_
        refine rn_aload_n (by exact dc_Ch_addRule 70 rfl) (by exact rfl) ?_
        refine rn_getf (v := .ref 7) fd_Ch_19 (by exact dc_Ch_addRule 71 rfl) (by exact rfl) (by exact rfl) ?_
        refine rn_iload (by exact dc_Ch_addRule 72 rfl) (by exact rfl) ?_
        refine rn_iload_n (by exact dc_Ch_addRule 73 rfl) (by exact rfl) ?_
        obtain ⟨f65, e66, h67⟩ := rn_bind h64
        clear h64
        refine rn_iastore (w2 := (emb g1 g2 x d (f29, f62, f65, C_sizes c2, C_lengths c2, C_letters c2, C_textLength c2, C_restSums c2, C_restCosts c2, C_restLengths c2) u t a b m o E)) (by exact dc_Ch_addRule 74 rfl) (by exact rfl) e66 (by exact rfl) ?_
        refine rn_aload_n (by exact dc_Ch_addRule 75 rfl) (by exact rfl) ?_
        refine rn_aload_n (by exact dc_Ch_addRule 76 rfl) (by exact rfl) ?_
        refine rn_iload_n (by exact dc_Ch_addRule 77 rfl) (by exact rfl) ?_
        refine rn_iload (by exact dc_Ch_addRule 78 rfl) (by exact rfl) ?_
        refine rn_iload_n (by exact dc_Ch_addRule 79 rfl) (by exact rfl) ?_
        obtain ⟨c69, e68, h70⟩ := rn_bind h67
        clear h67
        refine rn_invV0 (by exact c_Ch_keepBody_b e68) iv_Ch_90 (by exact ⟨Nat.le_of_ble_eq_true rfl, Nat.le_of_ble_eq_true rfl⟩) (by exact dc_Ch_addRule 80 rfl) (by exact rfl) (by exact rfl) (by exact rfl) (by exact Nat.le_of_ble_eq_true rfl) ?_
        show Rn _ _ 127 [some (.ref 4), some (.ref 44), some (.int v0), some (.int v1), some (.int v2), some (.int x15), some (.int (x32 + x38))] [] (emb g1 g2 x d c69 u t a b m o E) _ _ _
        cases h70
        exact rn_weak _ (by repeat (first | exact rn_le_0 | apply rn_le_s | apply rn_le_x)) jq46
  · replace h9 := rn_ifn c10 h9
    refine rn_icmp_ne_f 22 (by exact dc_Ch_addRule 13 rfl) (by exact rfl) (Classical.not_not.mp c10) ?_
    cases h9
    exact rn_return (by exact dc_Ch_addRule 14 rfl) (by exact rfl)
set_option maxHeartbeats 4000000 in
set_option maxRecDepth 100000 in
theorem p_Ch_fillPart_L3_b {Z : rn_Z} {g1 g2 : Nat} {x : tX} {d : tD}  {u : tU} {t : tT} {a : tG} {b : tG} {m : tM} {o : tO} {E : List rn_C}  {l2 : Int32} {l3 : Int32} {K : rn_K} {cz : tC} (hx : Rn Z M_Ch_fillPart 42 [some (.ref 4), some (.ref 44), some (.int l2), some (.int l3), none, none] [] (emb g1 g2 x d cz u t a b m o E) 0 0 K) (n : Nat) : ∀ (c : tC) (l4 : Int32), F_Ch_fillPart_L3 l2 l3 n c l4 = some cz → Rn Z M_Ch_fillPart 3 [some (.ref 4), some (.ref 44), some (.int l2), some (.int l3), some (.int l4), none] [] (emb g1 g2 x d c u t a b m o E) 0 0 K := by
  induction n with
  | zero =>
    intro c l4 h
    rw [F_Ch_fillPart_L3] at h
    cases h
  | succ n ih =>
    intro c l4 h
    rw [F_Ch_fillPart_L3] at h
    refine rn_iload (by exact dc_Ch_fillPart 2 rfl) (by exact rfl) ?_
    refine rn_bipush (v := (6 : Int32)) (by exact dc_Ch_fillPart 3 rfl) (by decide) ?_
    by_cases c1 : (6 : Int32) ≤ l4
    · replace h := rn_ifp c1 h
      refine rn_icmp_ge_t 42 (by exact dc_Ch_fillPart 4 rfl) (by exact rfl) c1 ?_
      cases h
      exact rn_weak _ (by repeat (first | exact rn_le_0 | apply rn_le_s | apply rn_le_x)) hx
    · replace h := rn_ifn c1 h
      refine rn_icmp_ge_f 42 (by exact dc_Ch_fillPart 4 rfl) (by exact rfl) c1 ?_
      refine rn_aload_n (by exact dc_Ch_fillPart 5 rfl) (by exact rfl) ?_
      refine rn_getf (v := .ref 5) fd_Ch_11 (by exact dc_Ch_fillPart 6 rfl) (by exact rfl) (by exact rfl) ?_
      refine rn_iload (by exact dc_Ch_fillPart 7 rfl) (by exact rfl) ?_
      refine rn_iload_n (by exact dc_Ch_fillPart 8 rfl) (by exact rfl) ?_
      refine rn_iload_n (by exact dc_Ch_fillPart 9 rfl) (by exact rfl) ?_
      obtain ⟨x3, e2, h4⟩ := rn_bind h
      clear h
      refine rn_invS0 (by exact c_Ch_cell e2) is_Ch_49 (by exact ⟨Nat.le_of_ble_eq_true rfl, Nat.le_of_ble_eq_true rfl⟩) (by exact dc_Ch_fillPart 10 rfl) (by exact rfl) (by exact rfl) (by exact Nat.le_of_ble_eq_true rfl) ?_
      show Rn _ _ 21 [some (.ref 4), some (.ref 44), some (.int l2), some (.int l3), some (.int l4), none] [.int x3, .ref 5] (emb g1 g2 x d c u t a b m o E) _ _ _
      refine rn_lconst (v := (0 : Int64)) (by exact dc_Ch_fillPart 11 rfl) (by decide) ?_
      obtain ⟨f5, e6, h7⟩ := rn_bind h4
      clear h4
      refine rn_lastore (w2 := (emb g1 g2 x d (f5, C_costs c, C_rules c, C_sizes c, C_lengths c, C_letters c, C_textLength c, C_restSums c, C_restCosts c, C_restLengths c) u t a b m o E)) (by exact dc_Ch_fillPart 12 rfl) (by exact rfl) e6 (by exact rfl) ?_
      refine rn_aload_n (by exact dc_Ch_fillPart 13 rfl) (by exact rfl) ?_
      refine rn_getf (v := .ref 6) fd_Ch_15 (by exact dc_Ch_fillPart 14 rfl) (by exact rfl) (by exact rfl) ?_
      refine rn_iload (by exact dc_Ch_fillPart 15 rfl) (by exact rfl) ?_
      refine rn_iload_n (by exact dc_Ch_fillPart 16 rfl) (by exact rfl) ?_
      refine rn_iload_n (by exact dc_Ch_fillPart 17 rfl) (by exact rfl) ?_
      obtain ⟨x9, e8, h10⟩ := rn_bind h7
      clear h7
      refine rn_invS0 (by exact c_Ch_cell e8) is_Ch_49 (by exact ⟨Nat.le_of_ble_eq_true rfl, Nat.le_of_ble_eq_true rfl⟩) (by exact dc_Ch_fillPart 18 rfl) (by exact rfl) (by exact rfl) (by exact Nat.le_of_ble_eq_true rfl) ?_
      show Rn _ _ 34 [some (.ref 4), some (.ref 44), some (.int l2), some (.int l3), some (.int l4), none] [.int x9, .ref 6] (emb g1 g2 x d (f5, C_costs c, C_rules c, C_sizes c, C_lengths c, C_letters c, C_textLength c, C_restSums c, C_restCosts c, C_restLengths c) u t a b m o E) _ _ _
      refine rn_iconst (v := (-1 : Int32)) (by exact dc_Ch_fillPart 19 rfl) (by decide) ?_
      obtain ⟨f11, e12, h13⟩ := rn_bind h10
      clear h10
      refine rn_iastore (w2 := (emb g1 g2 x d (f5, f11, C_rules c, C_sizes c, C_lengths c, C_letters c, C_textLength c, C_restSums c, C_restCosts c, C_restLengths c) u t a b m o E)) (by exact dc_Ch_fillPart 20 rfl) (by exact rfl) e12 (by exact rfl) ?_
      refine rn_iinc (ls' := [some (.ref 4), some (.ref 44), some (.int l2), some (.int l3), some (.int (l4 + 1)), none]) (by exact dc_Ch_fillPart 21 rfl) (by decide) (by exact rfl) (by exact rn_inc_1 _) (by exact rfl) ?_
      refine rn_goto 3 (by exact dc_Ch_fillPart 22 rfl) (by exact rfl) ?_
      exact rn_weak _ (by repeat (first | exact rn_le_0 | apply rn_le_s | apply rn_le_x)) (ih _ _ h13)
set_option maxHeartbeats 4000000 in
set_option maxRecDepth 100000 in
theorem p_Ch_fillPart_L57_b {Z : rn_Z} {g1 g2 : Nat} {x : tX} {d : tD}  {u : tU} {t : tT} {a : tG} {b : tG} {m : tM} {o : tO} {E : List rn_C}  {l2 : Int32} {l3 : Int32} {l4 : Int32} {K : rn_K} {cz : tC} (hx : Rn Z M_Ch_fillPart 98 [some (.ref 4), some (.ref 44), some (.int l2), some (.int l3), some (.int l4), none] [] (emb g1 g2 x d cz u t a b m o E) 0 0 K) (n : Nat) : ∀ (c : tC) (l5 : Int32), F_Ch_fillPart_L57 b l2 l3 l4 n c l5 = some cz → Rn Z M_Ch_fillPart 57 [some (.ref 4), some (.ref 44), some (.int l2), some (.int l3), some (.int l4), some (.int l5)] [] (emb g1 g2 x d c u t a b m o E) 0 0 K := by
  induction n with
  | zero =>
    intro c l5 h
    rw [F_Ch_fillPart_L57] at h
    cases h
  | succ n ih =>
    intro c l5 h
    rw [F_Ch_fillPart_L57] at h
    refine rn_iload (by exact dc_Ch_fillPart 31 rfl) (by exact rfl) ?_
    refine rn_aload_n (by exact dc_Ch_fillPart 32 rfl) (by exact rfl) ?_
    refine rn_getf (v := .int (G_ruleCount b)) fd_Ch_70 (by exact dc_Ch_fillPart 33 rfl) (by exact rfl) (by exact rfl) ?_
    by_cases c1 : (G_ruleCount b) ≤ l5
    · replace h := rn_ifp c1 h
      refine rn_icmp_ge_t 98 (by exact dc_Ch_fillPart 34 rfl) (by exact rfl) c1 ?_
      cases h
      exact rn_weak _ (by repeat (first | exact rn_le_0 | apply rn_le_s | apply rn_le_x)) hx
    · replace h := rn_ifn c1 h
      refine rn_icmp_ge_f 98 (by exact dc_Ch_fillPart 34 rfl) (by exact rfl) c1 ?_
      refine rn_aload_n (by exact dc_Ch_fillPart 35 rfl) (by exact rfl) ?_
      refine rn_getf (v := .ref 45) fd_Ch_73 (by exact dc_Ch_fillPart 36 rfl) (by exact rfl) (by exact rfl) ?_
      refine rn_iload (by exact dc_Ch_fillPart 37 rfl) (by exact rfl) ?_
      obtain ⟨x2, e3, h4⟩ := rn_bind h
      clear h
      refine rn_iaload (by exact dc_Ch_fillPart 38 rfl) (by exact rfl) e3 ?_
      refine rn_aload_n (by exact dc_Ch_fillPart 39 rfl) (by exact rfl) ?_
      refine rn_getf (v := .ref 51) fd_Ch_76 (by exact dc_Ch_fillPart 40 rfl) (by exact rfl) (by exact rfl) ?_
      refine rn_iload (by exact dc_Ch_fillPart 41 rfl) (by exact rfl) ?_
      obtain ⟨x5, e6, h7⟩ := rn_bind h4
      clear h4
      refine rn_iaload (by exact dc_Ch_fillPart 42 rfl) (by exact rfl) e6 ?_
      obtain ⟨c8, e9, h11⟩ := rn_bind h7
      clear h7
      have jq10 : Rn Z M_Ch_fillPart 92 [some (.ref 4), some (.ref 44), some (.int l2), some (.int l3), some (.int l4), some (.int l5)] [] (emb g1 g2 x d c8 u t a b m o E) 0 0 K := by
        refine rn_iinc (ls' := [some (.ref 4), some (.ref 44), some (.int l2), some (.int l3), some (.int l4), some (.int (l5 + 1))]) (by exact dc_Ch_fillPart 50 rfl) (by decide) (by exact rfl) (by exact rn_inc_1 _) (by exact rfl) ?_
        refine rn_goto 57 (by exact dc_Ch_fillPart 51 rfl) (by exact rfl) ?_
        exact rn_weak _ (by repeat (first | exact rn_le_0 | apply rn_le_s | apply rn_le_x)) (ih _ _ h11)
      by_cases c12 : ¬ x2 = x5
      · replace e9 := rn_ifp c12 e9
        refine rn_icmp_ne_t 92 (by exact dc_Ch_fillPart 43 rfl) (by exact rfl) c12 ?_
        cases e9
        exact rn_weak _ (by repeat (first | exact rn_le_0 | apply rn_le_s | apply rn_le_x)) jq10
      · replace e9 := rn_ifn c12 e9
        refine rn_icmp_ne_f 92 (by exact dc_Ch_fillPart 43 rfl) (by exact rfl) (Classical.not_not.mp c12) ?_
        refine rn_aload_n (by exact dc_Ch_fillPart 44 rfl) (by exact rfl) ?_
        refine rn_aload_n (by exact dc_Ch_fillPart 45 rfl) (by exact rfl) ?_
        refine rn_iload (by exact dc_Ch_fillPart 46 rfl) (by exact rfl) ?_
        refine rn_iload_n (by exact dc_Ch_fillPart 47 rfl) (by exact rfl) ?_
        refine rn_iload_n (by exact dc_Ch_fillPart 48 rfl) (by exact rfl) ?_
        obtain ⟨c14, e13, h15⟩ := rn_bind e9
        clear e9
        refine rn_invV0 (by exact c_Ch_addRule_b e13) iv_Ch_79 (by exact ⟨Nat.le_of_ble_eq_true rfl, Nat.le_of_ble_eq_true rfl⟩) (by exact dc_Ch_fillPart 49 rfl) (by exact rfl) (by exact rfl) (by exact rfl) (by exact Nat.le_of_ble_eq_true rfl) ?_
        show Rn _ _ 92 [some (.ref 4), some (.ref 44), some (.int l2), some (.int l3), some (.int l4), some (.int l5)] [] (emb g1 g2 x d c14 u t a b m o E) _ _ _
        cases h15
        exact rn_weak _ (by repeat (first | exact rn_le_0 | apply rn_le_s | apply rn_le_x)) jq10
set_option maxHeartbeats 4000000 in
set_option maxRecDepth 100000 in
theorem p_Ch_fillPart_L45_b {Z : rn_Z} {g1 g2 : Nat} {x : tX} {d : tD}  {u : tU} {t : tT} {a : tG} {b : tG} {m : tM} {o : tO} {E : List rn_C}  {l2 : Int32} {l3 : Int32} {K : rn_K} {cz : tC} (hx : Rn Z M_Ch_fillPart 104 [none, none, none, none, none, none] [] (emb g1 g2 x d cz u t a b m o E) 0 0 K) (n : Nat) : ∀ (c : tC) (l4 : Int32), F_Ch_fillPart_L45 b l2 l3 n c l4 = some cz → Rn Z M_Ch_fillPart 45 [some (.ref 4), some (.ref 44), some (.int l2), some (.int l3), some (.int l4), none] [] (emb g1 g2 x d c u t a b m o E) 0 0 K := by
  induction n with
  | zero =>
    intro c l4 h
    rw [F_Ch_fillPart_L45] at h
    cases h
  | succ n ih =>
    intro c l4 h
    rw [F_Ch_fillPart_L45] at h
    refine rn_iload (by exact dc_Ch_fillPart 25 rfl) (by exact rfl) ?_
    refine rn_aload_n (by exact dc_Ch_fillPart 26 rfl) (by exact rfl) ?_
    refine rn_getf (v := .int (G_nonterminalCount b)) fd_Ch_65 (by exact dc_Ch_fillPart 27 rfl) (by exact rfl) (by exact rfl) ?_
    by_cases c1 : (G_nonterminalCount b) ≤ l4
    · replace h := rn_ifp c1 h
      refine rn_icmp_ge_t 104 (by exact dc_Ch_fillPart 28 rfl) (by exact rfl) c1 ?_
      cases h
      exact rn_weak _ (by repeat (first | exact rn_le_0 | apply rn_le_s | apply rn_le_x)) hx
    · replace h := rn_ifn c1 h
      refine rn_icmp_ge_f 104 (by exact dc_Ch_fillPart 28 rfl) (by exact rfl) c1 ?_
      refine rn_iconst (v := (0 : Int32)) (by exact dc_Ch_fillPart 29 rfl) (by decide) ?_
      refine rn_istore (ls' := [some (.ref 4), some (.ref 44), some (.int l2), some (.int l3), some (.int l4), some (.int (0 : Int32))]) (by exact dc_Ch_fillPart 30 rfl) (by decide) (by exact rfl) ?_
      obtain ⟨c5, e2, h4⟩ := rn_bind h
      clear h
      have jx3 : Rn Z M_Ch_fillPart 98 [some (.ref 4), some (.ref 44), some (.int l2), some (.int l3), some (.int l4), none] [] (emb g1 g2 x d c5 u t a b m o E) 0 0 K := by
        refine rn_iinc (ls' := [some (.ref 4), some (.ref 44), some (.int l2), some (.int l3), some (.int (l4 + 1)), none]) (by exact dc_Ch_fillPart 52 rfl) (by decide) (by exact rfl) (by exact rn_inc_1 _) (by exact rfl) ?_
        refine rn_goto 45 (by exact dc_Ch_fillPart 53 rfl) (by exact rfl) ?_
        exact rn_weak _ (by repeat (first | exact rn_le_0 | apply rn_le_s | apply rn_le_x)) (ih _ _ h4)
      exact rn_weak _ (by repeat (first | exact rn_le_0 | apply rn_le_s | apply rn_le_x)) (p_Ch_fillPart_L57_b jx3 _ _ _ e2)
set_option maxHeartbeats 4000000 in
set_option maxRecDepth 100000 in
theorem c_Ch_fillPart_b {Z : rn_Z} {g1 g2 : Nat} {x : tX} {d : tD} {c : tC} {u : tU} {t : tT} {a : tG} {b : tG} {m : tM} {o : tO} {E : List rn_C} {v0 : Int32} {v1 : Int32} {cR : tC} (h : F_Ch_fillPart c b v0 v1 = some cR) : Call Z M_Ch_fillPart [.ref 4, .ref 44, .int v0, .int v1] (emb g1 g2 x d c u t a b m o E) 0 0 none (emb g1 g2 x d cR u t a b m o E) := by
  unfold F_Ch_fillPart at h
  refine rn_call (by decide) 2 (by exact Nat.le_of_ble_eq_true rfl) ?_
  show Rn Z M_Ch_fillPart 0 [some (.ref 4), some (.ref 44), some (.int v0), some (.int v1), none, none] [] (emb g1 g2 x d c u t a b m o E) 0 0 _
  refine rn_iconst (v := (0 : Int32)) (by exact dc_Ch_fillPart 0 rfl) (by decide) ?_
  refine rn_istore (ls' := [some (.ref 4), some (.ref 44), some (.int v0), some (.int v1), some (.int (0 : Int32)), none]) (by exact dc_Ch_fillPart 1 rfl) (by decide) (by exact rfl) ?_
  obtain ⟨c4, e1, h3⟩ := rn_bind h
  clear h
  have jx2 : Rn Z M_Ch_fillPart 42 [some (.ref 4), some (.ref 44), some (.int v0), some (.int v1), none, none] [] (emb g1 g2 x d c4 u t a b m o E) 0 0 (rn_Ret Z none (emb g1 g2 x d cR u t a b m o E)) := by
    refine rn_iconst (v := (0 : Int32)) (by exact dc_Ch_fillPart 23 rfl) (by decide) ?_
    refine rn_istore (ls' := [some (.ref 4), some (.ref 44), some (.int v0), some (.int v1), some (.int (0 : Int32)), none]) (by exact dc_Ch_fillPart 24 rfl) (by decide) (by exact rfl) ?_
    obtain ⟨c8, e5, h7⟩ := rn_bind h3
    clear h3
    have jx6 : Rn Z M_Ch_fillPart 104 [none, none, none, none, none, none] [] (emb g1 g2 x d c8 u t a b m o E) 0 0 (rn_Ret Z none (emb g1 g2 x d cR u t a b m o E)) := by
      cases h7
      exact rn_return (by exact dc_Ch_fillPart 54 rfl) (by exact rfl)
    exact rn_weak _ (by repeat (first | exact rn_le_0 | apply rn_le_s | apply rn_le_x)) (p_Ch_fillPart_L45_b jx6 _ _ _ e5)
  exact rn_weak _ (by repeat (first | exact rn_le_0 | apply rn_le_s | apply rn_le_x)) (p_Ch_fillPart_L3_b jx2 _ _ _ e1)
def F_Ch_fillText_L12 (a : tG) (l2 : Int32) : Nat → tC → Int32 → Option tC
  | 0, _, _ => none
  | n + 1, c, l3 =>
    if (C_textLength c) < (l3 + l2) then (
      some c
    ) else (
      Option.bind (F_Ch_fillPart c a l3 (l3 + l2)) fun c3 =>
      F_Ch_fillText_L12 a l2 n c3 (l3 + 1)
    )
set_option maxHeartbeats 4000000 in
set_option maxRecDepth 100000 in
theorem p_Ch_fillText_L12 {Z : rn_Z} {g1 g2 : Nat} {x : tX} {d : tD}  {u : tU} {t : tT} {a : tG} {b : tG} {m : tM} {o : tO} {E : List rn_C}  {l2 : Int32} {K : rn_K} {cz : tC} (hx : Rn Z M_Ch_fillText 37 [some (.ref 4), some (.ref 35), some (.int l2), none] [] (emb g1 g2 x d cz u t a b m o E) 0 0 K) (n : Nat) : ∀ (c : tC) (l3 : Int32), F_Ch_fillText_L12 a l2 n c l3 = some cz → Rn Z M_Ch_fillText 12 [some (.ref 4), some (.ref 35), some (.int l2), some (.int l3)] [] (emb g1 g2 x d c u t a b m o E) 0 0 K := by
  induction n with
  | zero =>
    intro c l3 h
    rw [F_Ch_fillText_L12] at h
    cases h
  | succ n ih =>
    intro c l3 h
    rw [F_Ch_fillText_L12] at h
    refine rn_iload_n (by exact dc_Ch_fillText 8 rfl) (by exact rfl) ?_
    refine rn_iload_n (by exact dc_Ch_fillText 9 rfl) (by exact rfl) ?_
    refine rn_iadd (by exact dc_Ch_fillText 10 rfl) ?_
    refine rn_aload_n (by exact dc_Ch_fillText 11 rfl) (by exact rfl) ?_
    refine rn_getf (v := .int (C_textLength c)) fd_Ch_32 (by exact dc_Ch_fillText 12 rfl) (by exact rfl) (by exact rfl) ?_
    by_cases c1 : (C_textLength c) < (l3 + l2)
    · replace h := rn_ifp c1 h
      refine rn_icmp_gt_t 37 (by exact dc_Ch_fillText 13 rfl) (by exact rfl) c1 ?_
      cases h
      exact rn_weak _ (by repeat (first | exact rn_le_0 | apply rn_le_s | apply rn_le_x)) hx
    · replace h := rn_ifn c1 h
      refine rn_icmp_gt_f 37 (by exact dc_Ch_fillText 13 rfl) (by exact rfl) c1 ?_
      refine rn_aload_n (by exact dc_Ch_fillText 14 rfl) (by exact rfl) ?_
      refine rn_aload_n (by exact dc_Ch_fillText 15 rfl) (by exact rfl) ?_
      refine rn_iload_n (by exact dc_Ch_fillText 16 rfl) (by exact rfl) ?_
      refine rn_iload_n (by exact dc_Ch_fillText 17 rfl) (by exact rfl) ?_
      refine rn_iload_n (by exact dc_Ch_fillText 18 rfl) (by exact rfl) ?_
      refine rn_iadd (by exact dc_Ch_fillText 19 rfl) ?_
      obtain ⟨c3, e2, h4⟩ := rn_bind h
      clear h
      refine rn_invV0 (by exact c_Ch_fillPart e2) iv_Ch_61 (by exact ⟨Nat.le_of_ble_eq_true rfl, Nat.le_of_ble_eq_true rfl⟩) (by exact dc_Ch_fillText 20 rfl) (by exact rfl) (by exact rfl) (by exact rfl) (by exact Nat.le_of_ble_eq_true rfl) ?_
      show Rn _ _ 31 [some (.ref 4), some (.ref 35), some (.int l2), some (.int l3)] [] (emb g1 g2 x d c3 u t a b m o E) _ _ _
      refine rn_iinc (ls' := [some (.ref 4), some (.ref 35), some (.int l2), some (.int (l3 + 1))]) (by exact dc_Ch_fillText 21 rfl) (by decide) (by exact rfl) (by exact rn_inc_1 _) (by exact rfl) ?_
      refine rn_goto 12 (by exact dc_Ch_fillText 22 rfl) (by exact rfl) ?_
      exact rn_weak _ (by repeat (first | exact rn_le_0 | apply rn_le_s | apply rn_le_x)) (ih _ _ h4)
def F_Ch_fillText_L2 (a : tG) : Nat → tC → Int32 → Option tC
  | 0, _, _ => none
  | n + 1, c, l2 =>
    if (C_textLength c) < l2 then (
      some c
    ) else (
      Option.bind (F_Ch_fillText_L12 a l2 rn_fu c (0 : Int32)) fun c5 =>
      F_Ch_fillText_L2 a n c5 (l2 + 1)
    )
set_option maxHeartbeats 4000000 in
set_option maxRecDepth 100000 in
theorem p_Ch_fillText_L2 {Z : rn_Z} {g1 g2 : Nat} {x : tX} {d : tD}  {u : tU} {t : tT} {a : tG} {b : tG} {m : tM} {o : tO} {E : List rn_C}   {K : rn_K} {cz : tC} (hx : Rn Z M_Ch_fillText 43 [none, none, none, none] [] (emb g1 g2 x d cz u t a b m o E) 0 0 K) (n : Nat) : ∀ (c : tC) (l2 : Int32), F_Ch_fillText_L2 a n c l2 = some cz → Rn Z M_Ch_fillText 2 [some (.ref 4), some (.ref 35), some (.int l2), none] [] (emb g1 g2 x d c u t a b m o E) 0 0 K := by
  induction n with
  | zero =>
    intro c l2 h
    rw [F_Ch_fillText_L2] at h
    cases h
  | succ n ih =>
    intro c l2 h
    rw [F_Ch_fillText_L2] at h
    refine rn_iload_n (by exact dc_Ch_fillText 2 rfl) (by exact rfl) ?_
    refine rn_aload_n (by exact dc_Ch_fillText 3 rfl) (by exact rfl) ?_
    refine rn_getf (v := .int (C_textLength c)) fd_Ch_32 (by exact dc_Ch_fillText 4 rfl) (by exact rfl) (by exact rfl) ?_
    by_cases c1 : (C_textLength c) < l2
    · replace h := rn_ifp c1 h
      refine rn_icmp_gt_t 43 (by exact dc_Ch_fillText 5 rfl) (by exact rfl) c1 ?_
      cases h
      exact rn_weak _ (by repeat (first | exact rn_le_0 | apply rn_le_s | apply rn_le_x)) hx
    · replace h := rn_ifn c1 h
      refine rn_icmp_gt_f 43 (by exact dc_Ch_fillText 5 rfl) (by exact rfl) c1 ?_
      refine rn_iconst (v := (0 : Int32)) (by exact dc_Ch_fillText 6 rfl) (by decide) ?_
      refine rn_istore_n (ls' := [some (.ref 4), some (.ref 35), some (.int l2), some (.int (0 : Int32))]) (by exact dc_Ch_fillText 7 rfl) (by decide) (by exact rfl) ?_
      obtain ⟨c5, e2, h4⟩ := rn_bind h
      clear h
      have jx3 : Rn Z M_Ch_fillText 37 [some (.ref 4), some (.ref 35), some (.int l2), none] [] (emb g1 g2 x d c5 u t a b m o E) 0 0 K := by
        refine rn_iinc (ls' := [some (.ref 4), some (.ref 35), some (.int (l2 + 1)), none]) (by exact dc_Ch_fillText 23 rfl) (by decide) (by exact rfl) (by exact rn_inc_1 _) (by exact rfl) ?_
        refine rn_goto 2 (by exact dc_Ch_fillText 24 rfl) (by exact rfl) ?_
        exact rn_weak _ (by repeat (first | exact rn_le_0 | apply rn_le_s | apply rn_le_x)) (ih _ _ h4)
      exact rn_weak _ (by repeat (first | exact rn_le_0 | apply rn_le_s | apply rn_le_x)) (p_Ch_fillText_L12 jx3 _ _ _ e2)
def F_Ch_fillText (c : tC) (a : tG)  : Option tC :=
  Option.bind (F_Ch_fillText_L2 a rn_fu c (1 : Int32)) fun c4 =>
  some c4
set_option maxHeartbeats 4000000 in
set_option maxRecDepth 100000 in
theorem c_Ch_fillText {Z : rn_Z} {g1 g2 : Nat} {x : tX} {d : tD} {c : tC} {u : tU} {t : tT} {a : tG} {b : tG} {m : tM} {o : tO} {E : List rn_C}  {cR : tC} (h : F_Ch_fillText c a  = some cR) : Call Z M_Ch_fillText [.ref 4, .ref 35] (emb g1 g2 x d c u t a b m o E) 0 0 none (emb g1 g2 x d cR u t a b m o E) := by
  unfold F_Ch_fillText at h
  refine rn_call (by decide) 2 (by exact Nat.le_of_ble_eq_true rfl) ?_
  show Rn Z M_Ch_fillText 0 [some (.ref 4), some (.ref 35), none, none] [] (emb g1 g2 x d c u t a b m o E) 0 0 _
  refine rn_iconst (v := (1 : Int32)) (by exact dc_Ch_fillText 0 rfl) (by decide) ?_
  refine rn_istore_n (ls' := [some (.ref 4), some (.ref 35), some (.int (1 : Int32)), none]) (by exact dc_Ch_fillText 1 rfl) (by decide) (by exact rfl) ?_
  obtain ⟨c4, e1, h3⟩ := rn_bind h
  clear h
  have jx2 : Rn Z M_Ch_fillText 43 [none, none, none, none] [] (emb g1 g2 x d c4 u t a b m o E) 0 0 (rn_Ret Z none (emb g1 g2 x d cR u t a b m o E)) := by
    cases h3
    exact rn_return (by exact dc_Ch_fillText 25 rfl) (by exact rfl)
  exact rn_weak _ (by repeat (first | exact rn_le_0 | apply rn_le_s | apply rn_le_x)) (p_Ch_fillText_L2 jx2 _ _ _ e1)
def F_Ut_sum (u : tU) (v0 : Int32) (v1 : Int32) : Option Int64 :=
  Option.bind (aG u 36 ((v0 * (6 : Int32)) + v1)) fun x1 =>
  some x1
set_option maxHeartbeats 4000000 in
set_option maxRecDepth 100000 in
theorem c_Ut_sum {Z : rn_Z} {g1 g2 : Nat} {x : tX} {d : tD} {c : tC} {u : tU} {t : tT} {a : tG} {b : tG} {m : tM} {o : tO} {E : List rn_C} {v0 : Int32} {v1 : Int32} {res : Int64} (h : F_Ut_sum u v0 v1 = some res) : Call Z M_Ut_sum [.ref 28, .int v0, .int v1] (emb g1 g2 x d c u t a b m o E) 0 0 (some (.long res)) (emb g1 g2 x d c u t a b m o E) := by
  unfold F_Ut_sum at h
  refine rn_call (by decide) 0 (by exact Nat.le_of_ble_eq_true rfl) ?_
  show Rn Z M_Ut_sum 0 [some (.ref 28), some (.int v0), some (.int v1)] [] (emb g1 g2 x d c u t a b m o E) 0 0 _
  refine rn_aload_n (by exact dc_Ut_sum 0 rfl) (by exact rfl) ?_
  refine rn_getf (v := .ref 29) fd_Ut_9 (by exact dc_Ut_sum 1 rfl) (by exact rfl) (by exact rfl) ?_
  refine rn_iload_n (by exact dc_Ut_sum 2 rfl) (by exact rfl) ?_
  refine rn_bipush (v := (6 : Int32)) (by exact dc_Ut_sum 3 rfl) (by decide) ?_
  refine rn_imul (by exact dc_Ut_sum 4 rfl) ?_
  refine rn_iload_n (by exact dc_Ut_sum 5 rfl) (by exact rfl) ?_
  refine rn_iadd (by exact dc_Ut_sum 6 rfl) ?_
  obtain ⟨x1, e2, h3⟩ := rn_bind h
  clear h
  refine rn_laload (by exact dc_Ut_sum 7 rfl) (by exact rfl) e2 ?_
  cases h3
  exact rn_lreturn (by exact dc_Ut_sum 8 rfl) (by exact rfl)
def F_Ut_emptyProduct_L6 (c : tC) (b : tG) (l2 : Int32) (l3 : Int32) : Nat → Int64 → Int32 → Option Int64
  | 0, _, _ => none
  | n + 1, l4, l6 =>
    Option.bind (aG (G_bodyLengths b) 12 l2) fun x1 =>
    if x1 ≤ l6 then (
      some l4
    ) else (
      Option.bind (F_Gr_symbol b l2 l6) fun x6 =>
      Option.bind (
        if l6 = l3 then (
          some (l4 : Int64)
        ) else (
          Option.bind (F_Gr_isNonterminal  x6) fun x14 =>
          Option.bind (
            if x14 = 0 then (
              some (0 : Int64)
            ) else (
              Option.bind (F_Ch_emptySum c x6) fun x22 =>
              some (x22 : Int64)
            )
           : Option Int64) fun y16 =>
          some (l4 * y16 : Int64)
        )
       : Option Int64) fun y8 =>
      F_Ut_emptyProduct_L6 c b l2 l3 n y8 (l6 + 1)
    )
set_option maxHeartbeats 4000000 in
set_option maxRecDepth 100000 in
theorem p_Ut_emptyProduct_L6_b {Z : rn_Z} {g1 g2 : Nat} {x : tX} {d : tD} {c : tC} {u : tU} {t : tT} {a : tG} {b : tG} {m : tM} {o : tO} {E : List rn_C}  {l2 : Int32} {l3 : Int32} {K : rn_K} {z4 : Int64} (hx : Rn Z M_Ut_emptyProduct 61 [none, none, none, none, some (.long z4), none, none, none] [] (emb g1 g2 x d c u t a b m o E) 0 0 K) (n : Nat) : ∀ (l4 : Int64) (l6 : Int32), F_Ut_emptyProduct_L6 c b l2 l3 n l4 l6 = some z4 → Rn Z M_Ut_emptyProduct 6 [some (.ref 44), some (.ref 4), some (.int l2), some (.int l3), some (.long l4), none, some (.int l6), none] [] (emb g1 g2 x d c u t a b m o E) 0 0 K := by
  induction n with
  | zero =>
    intro l4 l6 h
    rw [F_Ut_emptyProduct_L6] at h
    cases h
  | succ n ih =>
    intro l4 l6 h
    rw [F_Ut_emptyProduct_L6] at h
    refine rn_iload (by exact dc_Ut_emptyProduct 4 rfl) (by exact rfl) ?_
    refine rn_aload_n (by exact dc_Ut_emptyProduct 5 rfl) (by exact rfl) ?_
    refine rn_getf (v := .ref 47) fd_Ut_35 (by exact dc_Ut_emptyProduct 6 rfl) (by exact rfl) (by exact rfl) ?_
    refine rn_iload_n (by exact dc_Ut_emptyProduct 7 rfl) (by exact rfl) ?_
    obtain ⟨x1, e2, h3⟩ := rn_bind h
    clear h
    refine rn_iaload (by exact dc_Ut_emptyProduct 8 rfl) (by exact rfl) e2 ?_
    by_cases c4 : x1 ≤ l6
    · replace h3 := rn_ifp c4 h3
      refine rn_icmp_ge_t 61 (by exact dc_Ut_emptyProduct 9 rfl) (by exact rfl) c4 ?_
      cases h3
      exact rn_weak _ (by repeat (first | exact rn_le_0 | apply rn_le_s | apply rn_le_x)) hx
    · replace h3 := rn_ifn c4 h3
      refine rn_icmp_ge_f 61 (by exact dc_Ut_emptyProduct 9 rfl) (by exact rfl) c4 ?_
      refine rn_aload_n (by exact dc_Ut_emptyProduct 10 rfl) (by exact rfl) ?_
      refine rn_iload_n (by exact dc_Ut_emptyProduct 11 rfl) (by exact rfl) ?_
      refine rn_iload (by exact dc_Ut_emptyProduct 12 rfl) (by exact rfl) ?_
      obtain ⟨x6, e5, h7⟩ := rn_bind h3
      clear h3
      refine rn_invV0 (by exact c_Gr_symbol_b e5) iv_Ut_38 (by exact ⟨Nat.le_of_ble_eq_true rfl, Nat.le_of_ble_eq_true rfl⟩) (by exact dc_Ut_emptyProduct 13 rfl) (by exact rfl) (by exact rfl) (by exact rfl) (by exact Nat.le_of_ble_eq_true rfl) ?_
      show Rn _ _ 24 [some (.ref 44), some (.ref 4), some (.int l2), some (.int l3), some (.long l4), none, some (.int l6), none] [.int x6] (emb g1 g2 x d c u t a b m o E) _ _ _
      refine rn_istore (ls' := [some (.ref 44), some (.ref 4), some (.int l2), some (.int l3), some (.long l4), none, some (.int l6), some (.int x6)]) (by exact dc_Ut_emptyProduct 14 rfl) (by decide) (by exact rfl) ?_
      refine rn_iload (by exact dc_Ut_emptyProduct 15 rfl) (by exact rfl) ?_
      refine rn_iload_n (by exact dc_Ut_emptyProduct 16 rfl) (by exact rfl) ?_
      obtain ⟨y8, e9, h11⟩ := rn_bind h7
      clear h7
      have jq10 : Rn Z M_Ut_emptyProduct 55 [some (.ref 44), some (.ref 4), some (.int l2), some (.int l3), some (.long y8), none, some (.int l6), none] [] (emb g1 g2 x d c u t a b m o E) 0 0 K := by
        refine rn_iinc (ls' := [some (.ref 44), some (.ref 4), some (.int l2), some (.int l3), some (.long y8), none, some (.int (l6 + 1)), none]) (by exact dc_Ut_emptyProduct 29 rfl) (by decide) (by exact rfl) (by exact rn_inc_1 _) (by exact rfl) ?_
        refine rn_goto 6 (by exact dc_Ut_emptyProduct 30 rfl) (by exact rfl) ?_
        exact rn_weak _ (by repeat (first | exact rn_le_0 | apply rn_le_s | apply rn_le_x)) (ih _ _ h11)
      by_cases c12 : l6 = l3
      · replace e9 := rn_ifp c12 e9
        refine rn_icmp_eq_t 55 (by exact dc_Ut_emptyProduct 17 rfl) (by exact rfl) c12 ?_
        cases e9
        exact rn_weak _ (by repeat (first | exact rn_le_0 | apply rn_le_s | apply rn_le_x)) jq10
      · replace e9 := rn_ifn c12 e9
        refine rn_icmp_eq_f 55 (by exact dc_Ut_emptyProduct 17 rfl) (by exact rfl) c12 ?_
        refine rn_lload (by exact dc_Ut_emptyProduct 18 rfl) (by exact rfl) ?_
        refine rn_iload (by exact dc_Ut_emptyProduct 19 rfl) (by exact rfl) ?_
        obtain ⟨x14, e13, h15⟩ := rn_bind e9
        clear e9
        refine rn_invS0 (by exact c_Gr_isNonterminal e13) is_Ut_42 (by exact ⟨Nat.le_of_ble_eq_true rfl, Nat.le_of_ble_eq_true rfl⟩) (by exact dc_Ut_emptyProduct 20 rfl) (by exact rfl) (by exact rfl) (by exact Nat.le_of_ble_eq_true rfl) ?_
        show Rn _ _ 39 [some (.ref 44), some (.ref 4), some (.int l2), some (.int l3), some (.long l4), none, some (.int l6), some (.int x6)] [.int x14, .long l4] (emb g1 g2 x d c u t a b m o E) _ _ _
        obtain ⟨y16, e17, h19⟩ := rn_bind h15
        clear h15
        have jq18 : Rn Z M_Ut_emptyProduct 52 [some (.ref 44), some (.ref 4), some (.int l2), some (.int l3), none, none, some (.int l6), none] [.long y16, .long l4] (emb g1 g2 x d c u t a b m o E) 0 0 K := by
          refine rn_lmul (by exact dc_Ut_emptyProduct 27 rfl) ?_
          refine rn_lstore (ls' := [some (.ref 44), some (.ref 4), some (.int l2), some (.int l3), some (.long (l4 * y16)), none, some (.int l6), none]) (by exact dc_Ut_emptyProduct 28 rfl) (by decide) (by exact rfl) ?_
          cases h19
          exact rn_weak _ (by repeat (first | exact rn_le_0 | apply rn_le_s | apply rn_le_x)) jq10
        by_cases c20 : x14 = 0
        · replace e17 := rn_ifp c20 e17
          refine rn_if_eq_t 51 (by exact dc_Ut_emptyProduct 21 rfl) (by exact rfl) c20 ?_
          refine rn_lconst (v := (0 : Int64)) (by exact dc_Ut_emptyProduct 26 rfl) (by decide) ?_
          cases e17
          exact rn_weak _ (by repeat (first | exact rn_le_0 | apply rn_le_s | apply rn_le_x)) jq18
        · replace e17 := rn_ifn c20 e17
          refine rn_if_eq_f 51 (by exact dc_Ut_emptyProduct 21 rfl) (by exact rfl) c20 ?_
          refine rn_aload_n (by exact dc_Ut_emptyProduct 22 rfl) (by exact rfl) ?_
          refine rn_iload (by exact dc_Ut_emptyProduct 23 rfl) (by exact rfl) ?_
          obtain ⟨x22, e21, h23⟩ := rn_bind e17
          clear e17
          refine rn_invV0 (by exact c_Ch_emptySum e21) iv_Ut_57 (by exact ⟨Nat.le_of_ble_eq_true rfl, Nat.le_of_ble_eq_true rfl⟩) (by exact dc_Ut_emptyProduct 24 rfl) (by exact rfl) (by exact rfl) (by exact rfl) (by exact Nat.le_of_ble_eq_true rfl) ?_
          show Rn _ _ 48 [some (.ref 44), some (.ref 4), some (.int l2), some (.int l3), some (.long l4), none, some (.int l6), some (.int x6)] [.long x22, .long l4] (emb g1 g2 x d c u t a b m o E) _ _ _
          refine rn_goto 52 (by exact dc_Ut_emptyProduct 25 rfl) (by exact rfl) ?_
          cases h23
          exact rn_weak _ (by repeat (first | exact rn_le_0 | apply rn_le_s | apply rn_le_x)) jq18
def F_Ut_emptyProduct (c : tC) (b : tG) (v0 : Int32) (v1 : Int32) : Option Int64 :=
  Option.bind (F_Ut_emptyProduct_L6 c b v0 v1 rn_fu (1 : Int64) (0 : Int32)) fun y4 =>
  some y4
set_option maxHeartbeats 4000000 in
set_option maxRecDepth 100000 in
theorem c_Ut_emptyProduct_b {Z : rn_Z} {g1 g2 : Nat} {x : tX} {d : tD} {c : tC} {u : tU} {t : tT} {a : tG} {b : tG} {m : tM} {o : tO} {E : List rn_C} {v0 : Int32} {v1 : Int32} {res : Int64} (h : F_Ut_emptyProduct c b v0 v1 = some res) : Call Z M_Ut_emptyProduct [.ref 44, .ref 4, .int v0, .int v1] (emb g1 g2 x d c u t a b m o E) 0 0 (some (.long res)) (emb g1 g2 x d c u t a b m o E) := by
  unfold F_Ut_emptyProduct at h
  refine rn_call (by decide) 4 (by exact Nat.le_of_ble_eq_true rfl) ?_
  show Rn Z M_Ut_emptyProduct 0 [some (.ref 44), some (.ref 4), some (.int v0), some (.int v1), none, none, none, none] [] (emb g1 g2 x d c u t a b m o E) 0 0 _
  refine rn_lconst (v := (1 : Int64)) (by exact dc_Ut_emptyProduct 0 rfl) (by decide) ?_
  refine rn_lstore (ls' := [some (.ref 44), some (.ref 4), some (.int v0), some (.int v1), some (.long (1 : Int64)), none, none, none]) (by exact dc_Ut_emptyProduct 1 rfl) (by decide) (by exact rfl) ?_
  refine rn_iconst (v := (0 : Int32)) (by exact dc_Ut_emptyProduct 2 rfl) (by decide) ?_
  refine rn_istore (ls' := [some (.ref 44), some (.ref 4), some (.int v0), some (.int v1), some (.long (1 : Int64)), none, some (.int (0 : Int32)), none]) (by exact dc_Ut_emptyProduct 3 rfl) (by decide) (by exact rfl) ?_
  obtain ⟨y4, e1, h3⟩ := rn_bind h
  clear h
  have jx2 : Rn Z M_Ut_emptyProduct 61 [none, none, none, none, some (.long y4), none, none, none] [] (emb g1 g2 x d c u t a b m o E) 0 0 (rn_Ret Z (some (.long res)) (emb g1 g2 x d c u t a b m o E)) := by
    refine rn_lload (by exact dc_Ut_emptyProduct 31 rfl) (by exact rfl) ?_
    cases h3
    exact rn_lreturn (by exact dc_Ut_emptyProduct 32 rfl) (by exact rfl)
  exact rn_weak _ (by repeat (first | exact rn_le_0 | apply rn_le_s | apply rn_le_x)) (p_Ut_emptyProduct_L6_b jx2 _ _ _ e1)
end
section
def F_Ut_addRule_L59 (l3 : Int32) (l4 : Int32) (l5 : Int32) (l6 : Int32) (l7 : Int64) : Nat → tU → Int32 → Option tU
  | 0, _, _ => none
  | n + 1, u, l9 =>
    if (6 : Int32) ≤ l9 then (
      some u
    ) else (
      Option.bind (aG u 36 ((l4 * (6 : Int32)) + l9)) fun x2 =>
      Option.bind (F_Ut_sum u l6 l9) fun x6 =>
      Option.bind (aS u 36 ((l4 * (6 : Int32)) + l9) (x2 + (l7 * x6))) fun f8 =>
      F_Ut_addRule_L59 l3 l4 l5 l6 l7 n f8 (l9 + 1)
    )
set_option maxHeartbeats 4000000 in
set_option maxRecDepth 100000 in
theorem p_Ut_addRule_L59_b {Z : rn_Z} {g1 g2 : Nat} {x : tX} {d : tD} {c : tC}  {t : tT} {a : tG} {b : tG} {m : tM} {o : tO} {E : List rn_C}  {l3 : Int32} {l4 : Int32} {l5 : Int32} {l6 : Int32} {l7 : Int64} {K : rn_K} {uz : tU} (hx : Rn Z M_Ut_addRule 99 [some (.ref 28), some (.ref 44), some (.ref 4), some (.int l3), some (.int l4), some (.int l5), none, none, none, none] [] (emb g1 g2 x d c uz t a b m o E) 0 0 K) (n : Nat) : ∀ (u : tU) (l9 : Int32), F_Ut_addRule_L59 l3 l4 l5 l6 l7 n u l9 = some uz → Rn Z M_Ut_addRule 59 [some (.ref 28), some (.ref 44), some (.ref 4), some (.int l3), some (.int l4), some (.int l5), some (.int l6), some (.long l7), none, some (.int l9)] [] (emb g1 g2 x d c u t a b m o E) 0 0 K := by
  induction n with
  | zero =>
    intro u l9 h
    rw [F_Ut_addRule_L59] at h
    cases h
  | succ n ih =>
    intro u l9 h
    rw [F_Ut_addRule_L59] at h
    refine rn_iload (by exact dc_Ut_addRule 34 rfl) (by exact rfl) ?_
    refine rn_bipush (v := (6 : Int32)) (by exact dc_Ut_addRule 35 rfl) (by decide) ?_
    by_cases c1 : (6 : Int32) ≤ l9
    · replace h := rn_ifp c1 h
      refine rn_icmp_ge_t 99 (by exact dc_Ut_addRule 36 rfl) (by exact rfl) c1 ?_
      cases h
      exact rn_weak _ (by repeat (first | exact rn_le_0 | apply rn_le_s | apply rn_le_x)) hx
    · replace h := rn_ifn c1 h
      refine rn_icmp_ge_f 99 (by exact dc_Ut_addRule 36 rfl) (by exact rfl) c1 ?_
      refine rn_aload_n (by exact dc_Ut_addRule 37 rfl) (by exact rfl) ?_
      refine rn_getf (v := .ref 29) fd_Ut_9 (by exact dc_Ut_addRule 38 rfl) (by exact rfl) (by exact rfl) ?_
      refine rn_iload (by exact dc_Ut_addRule 39 rfl) (by exact rfl) ?_
      refine rn_bipush (v := (6 : Int32)) (by exact dc_Ut_addRule 40 rfl) (by decide) ?_
      refine rn_imul (by exact dc_Ut_addRule 41 rfl) ?_
      refine rn_iload (by exact dc_Ut_addRule 42 rfl) (by exact rfl) ?_
      refine rn_iadd (by exact dc_Ut_addRule 43 rfl) ?_
      refine rn_dup2 (by exact dc_Ut_addRule 44 rfl) (by exact rfl) (by exact rfl) ?_
      obtain ⟨x2, e3, h4⟩ := rn_bind h
      clear h
      refine rn_laload (by exact dc_Ut_addRule 45 rfl) (by exact rfl) e3 ?_
      refine rn_lload (by exact dc_Ut_addRule 46 rfl) (by exact rfl) ?_
      refine rn_aload_n (by exact dc_Ut_addRule 47 rfl) (by exact rfl) ?_
      refine rn_iload (by exact dc_Ut_addRule 48 rfl) (by exact rfl) ?_
      refine rn_iload (by exact dc_Ut_addRule 49 rfl) (by exact rfl) ?_
      obtain ⟨x6, e5, h7⟩ := rn_bind h4
      clear h4
      refine rn_invV0 (by exact c_Ut_sum e5) iv_Ut_53 (by exact ⟨Nat.le_of_ble_eq_true rfl, Nat.le_of_ble_eq_true rfl⟩) (by exact dc_Ut_addRule 50 rfl) (by exact rfl) (by exact rfl) (by exact rfl) (by exact Nat.le_of_ble_eq_true rfl) ?_
      show Rn _ _ 90 [some (.ref 28), some (.ref 44), some (.ref 4), some (.int l3), some (.int l4), some (.int l5), some (.int l6), some (.long l7), none, some (.int l9)] [.long x6, .long l7, .long x2, .int ((l4 * (6 : Int32)) + l9), .ref 29] (emb g1 g2 x d c u t a b m o E) _ _ _
      refine rn_lmul (by exact dc_Ut_addRule 51 rfl) ?_
      refine rn_ladd (by exact dc_Ut_addRule 52 rfl) ?_
      obtain ⟨f8, e9, h10⟩ := rn_bind h7
      clear h7
      refine rn_lastore (w2 := (emb g1 g2 x d c f8 t a b m o E)) (by exact dc_Ut_addRule 53 rfl) (by exact rfl) e9 (by exact rfl) ?_
      refine rn_iinc (ls' := [some (.ref 28), some (.ref 44), some (.ref 4), some (.int l3), some (.int l4), some (.int l5), some (.int l6), some (.long l7), none, some (.int (l9 + 1))]) (by exact dc_Ut_addRule 54 rfl) (by decide) (by exact rfl) (by exact rn_inc_1 _) (by exact rfl) ?_
      refine rn_goto 59 (by exact dc_Ut_addRule 55 rfl) (by exact rfl) ?_
      exact rn_weak _ (by repeat (first | exact rn_le_0 | apply rn_le_s | apply rn_le_x)) (ih _ _ h10)
def F_Ut_addRule_L11 (c : tC) (b : tG) (l3 : Int32) (l4 : Int32) : Nat → tU → Int32 → Option tU
  | 0, _, _ => none
  | n + 1, u, l5 =>
    Option.bind (aG (G_bodyLengths b) 12 l3) fun x1 =>
    if x1 ≤ l5 then (
      some u
    ) else (
      Option.bind (F_Gr_symbol b l3 l5) fun x6 =>
      Option.bind (F_Gr_isNonterminal  x6) fun x9 =>
      Option.bind (
        if x9 = 0 then (
          some u
        ) else (
          Option.bind (aG (G_weights b) 12 l3) fun x16 =>
          Option.bind (F_Ut_emptyProduct c b l3 l5) fun x20 =>
          Option.bind (F_Ut_addRule_L59 l3 l4 l5 x6 (x16 * x20) rn_fu u (0 : Int32)) fun u25 =>
          some u25
        )
       : Option tU) fun u11 =>
      F_Ut_addRule_L11 c b l3 l4 n u11 (l5 + 1)
    )
set_option maxHeartbeats 4000000 in
set_option maxRecDepth 100000 in
theorem p_Ut_addRule_L11_b {Z : rn_Z} {g1 g2 : Nat} {x : tX} {d : tD} {c : tC}  {t : tT} {a : tG} {b : tG} {m : tM} {o : tO} {E : List rn_C}  {l3 : Int32} {l4 : Int32} {K : rn_K} {uz : tU} (hx : Rn Z M_Ut_addRule 105 [none, none, none, none, none, none, none, none, none, none] [] (emb g1 g2 x d c uz t a b m o E) 0 0 K) (n : Nat) : ∀ (u : tU) (l5 : Int32), F_Ut_addRule_L11 c b l3 l4 n u l5 = some uz → Rn Z M_Ut_addRule 11 [some (.ref 28), some (.ref 44), some (.ref 4), some (.int l3), some (.int l4), some (.int l5), none, none, none, none] [] (emb g1 g2 x d c u t a b m o E) 0 0 K := by
  induction n with
  | zero =>
    intro u l5 h
    rw [F_Ut_addRule_L11] at h
    cases h
  | succ n ih =>
    intro u l5 h
    rw [F_Ut_addRule_L11] at h
    refine rn_iload (by exact dc_Ut_addRule 7 rfl) (by exact rfl) ?_
    refine rn_aload_n (by exact dc_Ut_addRule 8 rfl) (by exact rfl) ?_
    refine rn_getf (v := .ref 47) fd_Ut_35 (by exact dc_Ut_addRule 9 rfl) (by exact rfl) (by exact rfl) ?_
    refine rn_iload_n (by exact dc_Ut_addRule 10 rfl) (by exact rfl) ?_
    obtain ⟨x1, e2, h3⟩ := rn_bind h
    clear h
    refine rn_iaload (by exact dc_Ut_addRule 11 rfl) (by exact rfl) e2 ?_
    by_cases c4 : x1 ≤ l5
    · replace h3 := rn_ifp c4 h3
      refine rn_icmp_ge_t 105 (by exact dc_Ut_addRule 12 rfl) (by exact rfl) c4 ?_
      cases h3
      exact rn_weak _ (by repeat (first | exact rn_le_0 | apply rn_le_s | apply rn_le_x)) hx
    · replace h3 := rn_ifn c4 h3
      refine rn_icmp_ge_f 105 (by exact dc_Ut_addRule 12 rfl) (by exact rfl) c4 ?_
      refine rn_aload_n (by exact dc_Ut_addRule 13 rfl) (by exact rfl) ?_
      refine rn_iload_n (by exact dc_Ut_addRule 14 rfl) (by exact rfl) ?_
      refine rn_iload (by exact dc_Ut_addRule 15 rfl) (by exact rfl) ?_
      obtain ⟨x6, e5, h7⟩ := rn_bind h3
      clear h3
      refine rn_invV0 (by exact c_Gr_symbol_b e5) iv_Ut_38 (by exact ⟨Nat.le_of_ble_eq_true rfl, Nat.le_of_ble_eq_true rfl⟩) (by exact dc_Ut_addRule 16 rfl) (by exact rfl) (by exact rfl) (by exact rfl) (by exact Nat.le_of_ble_eq_true rfl) ?_
      show Rn _ _ 29 [some (.ref 28), some (.ref 44), some (.ref 4), some (.int l3), some (.int l4), some (.int l5), none, none, none, none] [.int x6] (emb g1 g2 x d c u t a b m o E) _ _ _
      refine rn_istore (ls' := [some (.ref 28), some (.ref 44), some (.ref 4), some (.int l3), some (.int l4), some (.int l5), some (.int x6), none, none, none]) (by exact dc_Ut_addRule 17 rfl) (by decide) (by exact rfl) ?_
      refine rn_iload (by exact dc_Ut_addRule 18 rfl) (by exact rfl) ?_
      obtain ⟨x9, e8, h10⟩ := rn_bind h7
      clear h7
      refine rn_invS0 (by exact c_Gr_isNonterminal e8) is_Ut_42 (by exact ⟨Nat.le_of_ble_eq_true rfl, Nat.le_of_ble_eq_true rfl⟩) (by exact dc_Ut_addRule 19 rfl) (by exact rfl) (by exact rfl) (by exact Nat.le_of_ble_eq_true rfl) ?_
      show Rn _ _ 36 [some (.ref 28), some (.ref 44), some (.ref 4), some (.int l3), some (.int l4), some (.int l5), some (.int x6), none, none, none] [.int x9] (emb g1 g2 x d c u t a b m o E) _ _ _
      obtain ⟨u11, e12, h14⟩ := rn_bind h10
      clear h10
      have jq13 : Rn Z M_Ut_addRule 99 [some (.ref 28), some (.ref 44), some (.ref 4), some (.int l3), some (.int l4), some (.int l5), none, none, none, none] [] (emb g1 g2 x d c u11 t a b m o E) 0 0 K := by
        refine rn_iinc (ls' := [some (.ref 28), some (.ref 44), some (.ref 4), some (.int l3), some (.int l4), some (.int (l5 + 1)), none, none, none, none]) (by exact dc_Ut_addRule 56 rfl) (by decide) (by exact rfl) (by exact rn_inc_1 _) (by exact rfl) ?_
        refine rn_goto 11 (by exact dc_Ut_addRule 57 rfl) (by exact rfl) ?_
        exact rn_weak _ (by repeat (first | exact rn_le_0 | apply rn_le_s | apply rn_le_x)) (ih _ _ h14)
      by_cases c15 : x9 = 0
      · replace e12 := rn_ifp c15 e12
        refine rn_if_eq_t 99 (by exact dc_Ut_addRule 20 rfl) (by exact rfl) c15 ?_
        cases e12
        exact rn_weak _ (by repeat (first | exact rn_le_0 | apply rn_le_s | apply rn_le_x)) jq13
      · replace e12 := rn_ifn c15 e12
        refine rn_if_eq_f 99 (by exact dc_Ut_addRule 20 rfl) (by exact rfl) c15 ?_
        refine rn_aload_n (by exact dc_Ut_addRule 21 rfl) (by exact rfl) ?_
        refine rn_getf (v := .ref 48) fd_Ut_46 (by exact dc_Ut_addRule 22 rfl) (by exact rfl) (by exact rfl) ?_
        refine rn_iload_n (by exact dc_Ut_addRule 23 rfl) (by exact rfl) ?_
        obtain ⟨x16, e17, h18⟩ := rn_bind e12
        clear e12
        refine rn_laload (by exact dc_Ut_addRule 24 rfl) (by exact rfl) e17 ?_
        refine rn_aload_n (by exact dc_Ut_addRule 25 rfl) (by exact rfl) ?_
        refine rn_aload_n (by exact dc_Ut_addRule 26 rfl) (by exact rfl) ?_
        refine rn_iload_n (by exact dc_Ut_addRule 27 rfl) (by exact rfl) ?_
        refine rn_iload (by exact dc_Ut_addRule 28 rfl) (by exact rfl) ?_
        obtain ⟨x20, e19, h21⟩ := rn_bind h18
        clear h18
        refine rn_invS0 (by exact c_Ut_emptyProduct_b e19) is_Ut_49 (by exact ⟨Nat.le_of_ble_eq_true rfl, Nat.le_of_ble_eq_true rfl⟩) (by exact dc_Ut_addRule 29 rfl) (by exact rfl) (by exact rfl) (by exact Nat.le_of_ble_eq_true rfl) ?_
        show Rn _ _ 53 [some (.ref 28), some (.ref 44), some (.ref 4), some (.int l3), some (.int l4), some (.int l5), some (.int x6), none, none, none] [.long x20, .long x16] (emb g1 g2 x d c u t a b m o E) _ _ _
        refine rn_lmul (by exact dc_Ut_addRule 30 rfl) ?_
        refine rn_lstore (ls' := [some (.ref 28), some (.ref 44), some (.ref 4), some (.int l3), some (.int l4), some (.int l5), some (.int x6), some (.long (x16 * x20)), none, none]) (by exact dc_Ut_addRule 31 rfl) (by decide) (by exact rfl) ?_
        refine rn_iconst (v := (0 : Int32)) (by exact dc_Ut_addRule 32 rfl) (by decide) ?_
        refine rn_istore (ls' := [some (.ref 28), some (.ref 44), some (.ref 4), some (.int l3), some (.int l4), some (.int l5), some (.int x6), some (.long (x16 * x20)), none, some (.int (0 : Int32))]) (by exact dc_Ut_addRule 33 rfl) (by decide) (by exact rfl) ?_
        obtain ⟨u25, e22, h24⟩ := rn_bind h21
        clear h21
        have jx23 : Rn Z M_Ut_addRule 99 [some (.ref 28), some (.ref 44), some (.ref 4), some (.int l3), some (.int l4), some (.int l5), none, none, none, none] [] (emb g1 g2 x d c u25 t a b m o E) 0 0 K := by
          cases h24
          exact rn_weak _ (by repeat (first | exact rn_le_0 | apply rn_le_s | apply rn_le_x)) jq13
        exact rn_weak _ (by repeat (first | exact rn_le_0 | apply rn_le_s | apply rn_le_x)) (p_Ut_addRule_L59_b jx23 _ _ _ e22)
def F_Ut_addRule (c : tC) (u : tU) (b : tG) (v0 : Int32) : Option tU :=
  Option.bind (aG (G_heads b) 12 v0) fun x1 =>
  Option.bind (F_Ut_addRule_L11 c b v0 x1 rn_fu u (0 : Int32)) fun u7 =>
  some u7
set_option maxHeartbeats 4000000 in
set_option maxRecDepth 100000 in
theorem c_Ut_addRule_b {Z : rn_Z} {g1 g2 : Nat} {x : tX} {d : tD} {c : tC} {u : tU} {t : tT} {a : tG} {b : tG} {m : tM} {o : tO} {E : List rn_C} {v0 : Int32} {uR : tU} (h : F_Ut_addRule c u b v0 = some uR) : Call Z M_Ut_addRule [.ref 28, .ref 44, .ref 4, .int v0] (emb g1 g2 x d c u t a b m o E) 0 0 none (emb g1 g2 x d c uR t a b m o E) := by
  unfold F_Ut_addRule at h
  refine rn_call (by decide) 6 (by exact Nat.le_of_ble_eq_true rfl) ?_
  show Rn Z M_Ut_addRule 0 [some (.ref 28), some (.ref 44), some (.ref 4), some (.int v0), none, none, none, none, none, none] [] (emb g1 g2 x d c u t a b m o E) 0 0 _
  refine rn_aload_n (by exact dc_Ut_addRule 0 rfl) (by exact rfl) ?_
  refine rn_getf (v := .ref 45) fd_Ut_28 (by exact dc_Ut_addRule 1 rfl) (by exact rfl) (by exact rfl) ?_
  refine rn_iload_n (by exact dc_Ut_addRule 2 rfl) (by exact rfl) ?_
  obtain ⟨x1, e2, h3⟩ := rn_bind h
  clear h
  refine rn_iaload (by exact dc_Ut_addRule 3 rfl) (by exact rfl) e2 ?_
  refine rn_istore (ls' := [some (.ref 28), some (.ref 44), some (.ref 4), some (.int v0), some (.int x1), none, none, none, none, none]) (by exact dc_Ut_addRule 4 rfl) (by decide) (by exact rfl) ?_
  refine rn_iconst (v := (0 : Int32)) (by exact dc_Ut_addRule 5 rfl) (by decide) ?_
  refine rn_istore (ls' := [some (.ref 28), some (.ref 44), some (.ref 4), some (.int v0), some (.int x1), some (.int (0 : Int32)), none, none, none, none]) (by exact dc_Ut_addRule 6 rfl) (by decide) (by exact rfl) ?_
  obtain ⟨u7, e4, h6⟩ := rn_bind h3
  clear h3
  have jx5 : Rn Z M_Ut_addRule 105 [none, none, none, none, none, none, none, none, none, none] [] (emb g1 g2 x d c u7 t a b m o E) 0 0 (rn_Ret Z none (emb g1 g2 x d c uR t a b m o E)) := by
    cases h6
    exact rn_return (by exact dc_Ut_addRule 58 rfl) (by exact rfl)
  exact rn_weak _ (by repeat (first | exact rn_le_0 | apply rn_le_s | apply rn_le_x)) (p_Ut_addRule_L11_b jx5 _ _ _ e4)
def F_Ut_fill_L21 (l3 : Int32) (l4 : Int32) : Nat → tU → Int32 → Option tU
  | 0, _, _ => none
  | n + 1, u, l5 =>
    if (6 : Int32) ≤ l5 then (
      some u
    ) else (
      Option.bind (
        if ¬ l4 = l5 then (
          some (0 : Int64)
        ) else (
          some (1 : Int64)
        )
       : Option Int64) fun y2 =>
      Option.bind (aS u 36 ((l4 * (6 : Int32)) + l5) y2) fun f7 =>
      F_Ut_fill_L21 l3 l4 n f7 (l5 + 1)
    )
set_option maxHeartbeats 4000000 in
set_option maxRecDepth 100000 in
theorem p_Ut_fill_L21_b {Z : rn_Z} {g1 g2 : Nat} {x : tX} {d : tD} {c : tC}  {t : tT} {a : tG} {b : tG} {m : tM} {o : tO} {E : List rn_C}  {l3 : Int32} {l4 : Int32} {K : rn_K} {uz : tU} (hx : Rn Z M_Ut_fill 59 [some (.ref 28), some (.ref 44), some (.ref 4), some (.int l3), some (.int l4), none] [] (emb g1 g2 x d c uz t a b m o E) 0 0 K) (n : Nat) : ∀ (u : tU) (l5 : Int32), F_Ut_fill_L21 l3 l4 n u l5 = some uz → Rn Z M_Ut_fill 21 [some (.ref 28), some (.ref 44), some (.ref 4), some (.int l3), some (.int l4), some (.int l5)] [] (emb g1 g2 x d c u t a b m o E) 0 0 K := by
  induction n with
  | zero =>
    intro u l5 h
    rw [F_Ut_fill_L21] at h
    cases h
  | succ n ih =>
    intro u l5 h
    rw [F_Ut_fill_L21] at h
    refine rn_iload (by exact dc_Ut_fill 13 rfl) (by exact rfl) ?_
    refine rn_bipush (v := (6 : Int32)) (by exact dc_Ut_fill 14 rfl) (by decide) ?_
    by_cases c1 : (6 : Int32) ≤ l5
    · replace h := rn_ifp c1 h
      refine rn_icmp_ge_t 59 (by exact dc_Ut_fill 15 rfl) (by exact rfl) c1 ?_
      cases h
      exact rn_weak _ (by repeat (first | exact rn_le_0 | apply rn_le_s | apply rn_le_x)) hx
    · replace h := rn_ifn c1 h
      refine rn_icmp_ge_f 59 (by exact dc_Ut_fill 15 rfl) (by exact rfl) c1 ?_
      refine rn_aload_n (by exact dc_Ut_fill 16 rfl) (by exact rfl) ?_
      refine rn_getf (v := .ref 29) fd_Ut_9 (by exact dc_Ut_fill 17 rfl) (by exact rfl) (by exact rfl) ?_
      refine rn_iload (by exact dc_Ut_fill 18 rfl) (by exact rfl) ?_
      refine rn_bipush (v := (6 : Int32)) (by exact dc_Ut_fill 19 rfl) (by decide) ?_
      refine rn_imul (by exact dc_Ut_fill 20 rfl) ?_
      refine rn_iload (by exact dc_Ut_fill 21 rfl) (by exact rfl) ?_
      refine rn_iadd (by exact dc_Ut_fill 22 rfl) ?_
      refine rn_iload (by exact dc_Ut_fill 23 rfl) (by exact rfl) ?_
      refine rn_iload (by exact dc_Ut_fill 24 rfl) (by exact rfl) ?_
      obtain ⟨y2, e3, h5⟩ := rn_bind h
      clear h
      have jq4 : Rn Z M_Ut_fill 52 [some (.ref 28), some (.ref 44), some (.ref 4), some (.int l3), some (.int l4), some (.int l5)] [.long y2, .int ((l4 * (6 : Int32)) + l5), .ref 29] (emb g1 g2 x d c u t a b m o E) 0 0 K := by
        obtain ⟨f7, e8, h9⟩ := rn_bind h5
        clear h5
        refine rn_lastore (w2 := (emb g1 g2 x d c f7 t a b m o E)) (by exact dc_Ut_fill 29 rfl) (by exact rfl) e8 (by exact rfl) ?_
        refine rn_iinc (ls' := [some (.ref 28), some (.ref 44), some (.ref 4), some (.int l3), some (.int l4), some (.int (l5 + 1))]) (by exact dc_Ut_fill 30 rfl) (by decide) (by exact rfl) (by exact rn_inc_1 _) (by exact rfl) ?_
        refine rn_goto 21 (by exact dc_Ut_fill 31 rfl) (by exact rfl) ?_
        exact rn_weak _ (by repeat (first | exact rn_le_0 | apply rn_le_s | apply rn_le_x)) (ih _ _ h9)
      by_cases c6 : ¬ l4 = l5
      · replace e3 := rn_ifp c6 e3
        refine rn_icmp_ne_t 51 (by exact dc_Ut_fill 25 rfl) (by exact rfl) c6 ?_
        refine rn_lconst (v := (0 : Int64)) (by exact dc_Ut_fill 28 rfl) (by decide) ?_
        cases e3
        exact rn_weak _ (by repeat (first | exact rn_le_0 | apply rn_le_s | apply rn_le_x)) jq4
      · replace e3 := rn_ifn c6 e3
        refine rn_icmp_ne_f 51 (by exact dc_Ut_fill 25 rfl) (by exact rfl) (Classical.not_not.mp c6) ?_
        refine rn_lconst (v := (1 : Int64)) (by exact dc_Ut_fill 26 rfl) (by decide) ?_
        refine rn_goto 52 (by exact dc_Ut_fill 27 rfl) (by exact rfl) ?_
        cases e3
        exact rn_weak _ (by repeat (first | exact rn_le_0 | apply rn_le_s | apply rn_le_x)) jq4
def F_Ut_fill_L62 (c : tC) (b : tG) (l3 : Int32) (l4 : Int32) : Nat → tU → Int32 → Option tU
  | 0, _, _ => none
  | n + 1, u, l5 =>
    if (G_ruleCount b) ≤ l5 then (
      some u
    ) else (
      Option.bind (aG (G_heads b) 12 l5) fun x2 =>
      Option.bind (
        if ¬ x2 = l4 then (
          some u
        ) else (
          Option.bind (F_Ut_addRule c u b l5) fun u11 =>
          some u11
        )
       : Option tU) fun u5 =>
      F_Ut_fill_L62 c b l3 l4 n u5 (l5 + 1)
    )
set_option maxHeartbeats 4000000 in
set_option maxRecDepth 100000 in
theorem p_Ut_fill_L62_b {Z : rn_Z} {g1 g2 : Nat} {x : tX} {d : tD} {c : tC}  {t : tT} {a : tG} {b : tG} {m : tM} {o : tO} {E : List rn_C}  {l3 : Int32} {l4 : Int32} {K : rn_K} {uz : tU} (hx : Rn Z M_Ut_fill 97 [some (.ref 28), some (.ref 44), some (.ref 4), some (.int l3), none, none] [] (emb g1 g2 x d c uz t a b m o E) 0 0 K) (n : Nat) : ∀ (u : tU) (l5 : Int32), F_Ut_fill_L62 c b l3 l4 n u l5 = some uz → Rn Z M_Ut_fill 62 [some (.ref 28), some (.ref 44), some (.ref 4), some (.int l3), some (.int l4), some (.int l5)] [] (emb g1 g2 x d c u t a b m o E) 0 0 K := by
  induction n with
  | zero =>
    intro u l5 h
    rw [F_Ut_fill_L62] at h
    cases h
  | succ n ih =>
    intro u l5 h
    rw [F_Ut_fill_L62] at h
    refine rn_iload (by exact dc_Ut_fill 34 rfl) (by exact rfl) ?_
    refine rn_aload_n (by exact dc_Ut_fill 35 rfl) (by exact rfl) ?_
    refine rn_getf (v := .int (G_ruleCount b)) fd_Ut_25 (by exact dc_Ut_fill 36 rfl) (by exact rfl) (by exact rfl) ?_
    by_cases c1 : (G_ruleCount b) ≤ l5
    · replace h := rn_ifp c1 h
      refine rn_icmp_ge_t 97 (by exact dc_Ut_fill 37 rfl) (by exact rfl) c1 ?_
      cases h
      exact rn_weak _ (by repeat (first | exact rn_le_0 | apply rn_le_s | apply rn_le_x)) hx
    · replace h := rn_ifn c1 h
      refine rn_icmp_ge_f 97 (by exact dc_Ut_fill 37 rfl) (by exact rfl) c1 ?_
      refine rn_aload_n (by exact dc_Ut_fill 38 rfl) (by exact rfl) ?_
      refine rn_getf (v := .ref 45) fd_Ut_28 (by exact dc_Ut_fill 39 rfl) (by exact rfl) (by exact rfl) ?_
      refine rn_iload (by exact dc_Ut_fill 40 rfl) (by exact rfl) ?_
      obtain ⟨x2, e3, h4⟩ := rn_bind h
      clear h
      refine rn_iaload (by exact dc_Ut_fill 41 rfl) (by exact rfl) e3 ?_
      refine rn_iload (by exact dc_Ut_fill 42 rfl) (by exact rfl) ?_
      obtain ⟨u5, e6, h8⟩ := rn_bind h4
      clear h4
      have jq7 : Rn Z M_Ut_fill 91 [some (.ref 28), some (.ref 44), some (.ref 4), some (.int l3), some (.int l4), some (.int l5)] [] (emb g1 g2 x d c u5 t a b m o E) 0 0 K := by
        refine rn_iinc (ls' := [some (.ref 28), some (.ref 44), some (.ref 4), some (.int l3), some (.int l4), some (.int (l5 + 1))]) (by exact dc_Ut_fill 49 rfl) (by decide) (by exact rfl) (by exact rn_inc_1 _) (by exact rfl) ?_
        refine rn_goto 62 (by exact dc_Ut_fill 50 rfl) (by exact rfl) ?_
        exact rn_weak _ (by repeat (first | exact rn_le_0 | apply rn_le_s | apply rn_le_x)) (ih _ _ h8)
      by_cases c9 : ¬ x2 = l4
      · replace e6 := rn_ifp c9 e6
        refine rn_icmp_ne_t 91 (by exact dc_Ut_fill 43 rfl) (by exact rfl) c9 ?_
        cases e6
        exact rn_weak _ (by repeat (first | exact rn_le_0 | apply rn_le_s | apply rn_le_x)) jq7
      · replace e6 := rn_ifn c9 e6
        refine rn_icmp_ne_f 91 (by exact dc_Ut_fill 43 rfl) (by exact rfl) (Classical.not_not.mp c9) ?_
        refine rn_aload_n (by exact dc_Ut_fill 44 rfl) (by exact rfl) ?_
        refine rn_aload_n (by exact dc_Ut_fill 45 rfl) (by exact rfl) ?_
        refine rn_aload_n (by exact dc_Ut_fill 46 rfl) (by exact rfl) ?_
        refine rn_iload (by exact dc_Ut_fill 47 rfl) (by exact rfl) ?_
        obtain ⟨u11, e10, h12⟩ := rn_bind e6
        clear e6
        refine rn_invV0 (by exact c_Ut_addRule_b e10) iv_Ut_31 (by exact ⟨Nat.le_of_ble_eq_true rfl, Nat.le_of_ble_eq_true rfl⟩) (by exact dc_Ut_fill 48 rfl) (by exact rfl) (by exact rfl) (by exact rfl) (by exact Nat.le_of_ble_eq_true rfl) ?_
        show Rn _ _ 91 [some (.ref 28), some (.ref 44), some (.ref 4), some (.int l3), some (.int l4), some (.int l5)] [] (emb g1 g2 x d c u11 t a b m o E) _ _ _
        cases h12
        exact rn_weak _ (by repeat (first | exact rn_le_0 | apply rn_le_s | apply rn_le_x)) jq7
def F_Ut_fill_L2 (c : tC) (b : tG) : Nat → tU → Int32 → Option tU
  | 0, _, _ => none
  | n + 1, u, l3 =>
    if (G_nonterminalCount b) ≤ l3 then (
      some u
    ) else (
      Option.bind (aG (G_order b) 6 l3) fun x2 =>
      Option.bind (F_Ut_fill_L21 l3 x2 rn_fu u (0 : Int32)) fun u8 =>
      Option.bind (F_Ut_fill_L62 c b l3 x2 rn_fu u8 (0 : Int32)) fun u12 =>
      F_Ut_fill_L2 c b n u12 (l3 + 1)
    )
set_option maxHeartbeats 4000000 in
set_option maxRecDepth 100000 in
theorem p_Ut_fill_L2_b {Z : rn_Z} {g1 g2 : Nat} {x : tX} {d : tD} {c : tC}  {t : tT} {a : tG} {b : tG} {m : tM} {o : tO} {E : List rn_C}   {K : rn_K} {uz : tU} (hx : Rn Z M_Ut_fill 103 [none, none, none, none, none, none] [] (emb g1 g2 x d c uz t a b m o E) 0 0 K) (n : Nat) : ∀ (u : tU) (l3 : Int32), F_Ut_fill_L2 c b n u l3 = some uz → Rn Z M_Ut_fill 2 [some (.ref 28), some (.ref 44), some (.ref 4), some (.int l3), none, none] [] (emb g1 g2 x d c u t a b m o E) 0 0 K := by
  induction n with
  | zero =>
    intro u l3 h
    rw [F_Ut_fill_L2] at h
    cases h
  | succ n ih =>
    intro u l3 h
    rw [F_Ut_fill_L2] at h
    refine rn_iload_n (by exact dc_Ut_fill 2 rfl) (by exact rfl) ?_
    refine rn_aload_n (by exact dc_Ut_fill 3 rfl) (by exact rfl) ?_
    refine rn_getf (v := .int (G_nonterminalCount b)) fd_Ut_15 (by exact dc_Ut_fill 4 rfl) (by exact rfl) (by exact rfl) ?_
    by_cases c1 : (G_nonterminalCount b) ≤ l3
    · replace h := rn_ifp c1 h
      refine rn_icmp_ge_t 103 (by exact dc_Ut_fill 5 rfl) (by exact rfl) c1 ?_
      cases h
      exact rn_weak _ (by repeat (first | exact rn_le_0 | apply rn_le_s | apply rn_le_x)) hx
    · replace h := rn_ifn c1 h
      refine rn_icmp_ge_f 103 (by exact dc_Ut_fill 5 rfl) (by exact rfl) c1 ?_
      refine rn_aload_n (by exact dc_Ut_fill 6 rfl) (by exact rfl) ?_
      refine rn_getf (v := .ref 51) fd_Ut_21 (by exact dc_Ut_fill 7 rfl) (by exact rfl) (by exact rfl) ?_
      refine rn_iload_n (by exact dc_Ut_fill 8 rfl) (by exact rfl) ?_
      obtain ⟨x2, e3, h4⟩ := rn_bind h
      clear h
      refine rn_iaload (by exact dc_Ut_fill 9 rfl) (by exact rfl) e3 ?_
      refine rn_istore (ls' := [some (.ref 28), some (.ref 44), some (.ref 4), some (.int l3), some (.int x2), none]) (by exact dc_Ut_fill 10 rfl) (by decide) (by exact rfl) ?_
      refine rn_iconst (v := (0 : Int32)) (by exact dc_Ut_fill 11 rfl) (by decide) ?_
      refine rn_istore (ls' := [some (.ref 28), some (.ref 44), some (.ref 4), some (.int l3), some (.int x2), some (.int (0 : Int32))]) (by exact dc_Ut_fill 12 rfl) (by decide) (by exact rfl) ?_
      obtain ⟨u8, e5, h7⟩ := rn_bind h4
      clear h4
      have jx6 : Rn Z M_Ut_fill 59 [some (.ref 28), some (.ref 44), some (.ref 4), some (.int l3), some (.int x2), none] [] (emb g1 g2 x d c u8 t a b m o E) 0 0 K := by
        refine rn_iconst (v := (0 : Int32)) (by exact dc_Ut_fill 32 rfl) (by decide) ?_
        refine rn_istore (ls' := [some (.ref 28), some (.ref 44), some (.ref 4), some (.int l3), some (.int x2), some (.int (0 : Int32))]) (by exact dc_Ut_fill 33 rfl) (by decide) (by exact rfl) ?_
        obtain ⟨u12, e9, h11⟩ := rn_bind h7
        clear h7
        have jx10 : Rn Z M_Ut_fill 97 [some (.ref 28), some (.ref 44), some (.ref 4), some (.int l3), none, none] [] (emb g1 g2 x d c u12 t a b m o E) 0 0 K := by
          refine rn_iinc (ls' := [some (.ref 28), some (.ref 44), some (.ref 4), some (.int (l3 + 1)), none, none]) (by exact dc_Ut_fill 51 rfl) (by decide) (by exact rfl) (by exact rn_inc_1 _) (by exact rfl) ?_
          refine rn_goto 2 (by exact dc_Ut_fill 52 rfl) (by exact rfl) ?_
          exact rn_weak _ (by repeat (first | exact rn_le_0 | apply rn_le_s | apply rn_le_x)) (ih _ _ h11)
        exact rn_weak _ (by repeat (first | exact rn_le_0 | apply rn_le_s | apply rn_le_x)) (p_Ut_fill_L62_b jx10 _ _ _ e9)
      exact rn_weak _ (by repeat (first | exact rn_le_0 | apply rn_le_s | apply rn_le_x)) (p_Ut_fill_L21_b jx6 _ _ _ e5)
def F_Ut_fill (c : tC) (u : tU) (b : tG)  : Option tU :=
  Option.bind (F_Ut_fill_L2 c b rn_fu u (0 : Int32)) fun u4 =>
  some u4
set_option maxHeartbeats 4000000 in
set_option maxRecDepth 100000 in
theorem c_Ut_fill_b {Z : rn_Z} {g1 g2 : Nat} {x : tX} {d : tD} {c : tC} {u : tU} {t : tT} {a : tG} {b : tG} {m : tM} {o : tO} {E : List rn_C}  {uR : tU} (h : F_Ut_fill c u b  = some uR) : Call Z M_Ut_fill [.ref 28, .ref 44, .ref 4] (emb g1 g2 x d c u t a b m o E) 0 0 none (emb g1 g2 x d c uR t a b m o E) := by
  unfold F_Ut_fill at h
  refine rn_call (by decide) 3 (by exact Nat.le_of_ble_eq_true rfl) ?_
  show Rn Z M_Ut_fill 0 [some (.ref 28), some (.ref 44), some (.ref 4), none, none, none] [] (emb g1 g2 x d c u t a b m o E) 0 0 _
  refine rn_iconst (v := (0 : Int32)) (by exact dc_Ut_fill 0 rfl) (by decide) ?_
  refine rn_istore_n (ls' := [some (.ref 28), some (.ref 44), some (.ref 4), some (.int (0 : Int32)), none, none]) (by exact dc_Ut_fill 1 rfl) (by decide) (by exact rfl) ?_
  obtain ⟨u4, e1, h3⟩ := rn_bind h
  clear h
  have jx2 : Rn Z M_Ut_fill 103 [none, none, none, none, none, none] [] (emb g1 g2 x d c u4 t a b m o E) 0 0 (rn_Ret Z none (emb g1 g2 x d c uR t a b m o E)) := by
    cases h3
    exact rn_return (by exact dc_Ut_fill 53 rfl) (by exact rfl)
  exact rn_weak _ (by repeat (first | exact rn_le_0 | apply rn_le_s | apply rn_le_x)) (p_Ut_fill_L2_b jx2 _ _ _ e1)
def F_Tl_clear (t : tT)  : Option tT :=
  some (T_rules t, T_starts t, T_ends t, T_symbols t, (0 : Int32))
set_option maxHeartbeats 4000000 in
set_option maxRecDepth 100000 in
theorem c_Tl_clear {Z : rn_Z} {g1 g2 : Nat} {x : tX} {d : tD} {c : tC} {u : tU} {t : tT} {a : tG} {b : tG} {m : tM} {o : tO} {E : List rn_C}  {tR : tT} (h : F_Tl_clear t  = some tR) : Call Z M_Tl_clear [.ref 30] (emb g1 g2 x d c u t a b m o E) 0 0 none (emb g1 g2 x d c u tR a b m o E) := by
  unfold F_Tl_clear at h
  refine rn_call (by decide) 0 (by exact Nat.le_of_ble_eq_true rfl) ?_
  show Rn Z M_Tl_clear 0 [some (.ref 30)] [] (emb g1 g2 x d c u t a b m o E) 0 0 _
  refine rn_aload_n (by exact dc_Tl_clear 0 rfl) (by exact rfl) ?_
  refine rn_iconst (v := (0 : Int32)) (by exact dc_Tl_clear 1 rfl) (by decide) ?_
  refine rn_putf (w2 := (emb g1 g2 x d c u (T_rules t, T_starts t, T_ends t, T_symbols t, (0 : Int32)) a b m o E)) fd_Tl_24 (by exact dc_Tl_clear 2 rfl) (by exact rfl) (by exact rfl) (by exact Nat.le_of_ble_eq_true rfl) (by exact rfl) ?_
  cases h
  exact rn_return (by exact dc_Tl_clear 3 rfl) (by exact rfl)
def F_Tl_shownCount (t : tT)  : Option Int32 :=
  some (if (100 : Int32) < T_nodeCount t then (100 : Int32) else T_nodeCount t)
set_option maxHeartbeats 4000000 in
set_option maxRecDepth 100000 in
theorem c_Tl_shownCount {Z : rn_Z} {g1 g2 : Nat} {x : tX} {d : tD} {c : tC} {u : tU} {t : tT} {a : tG} {b : tG} {m : tM} {o : tO} {E : List rn_C}  {res : Int32} (h : F_Tl_shownCount t  = some res) : Call Z M_Tl_shownCount [.ref 30] (emb g1 g2 x d c u t a b m o E) 0 0 (some (.int res)) (emb g1 g2 x d c u t a b m o E) := by
  unfold F_Tl_shownCount at h
  refine rn_call (by decide) 0 (by exact Nat.le_of_ble_eq_true rfl) ?_
  show Rn Z M_Tl_shownCount 0 [some (.ref 30)] [] (emb g1 g2 x d c u t a b m o E) 0 0 _
  refine rn_aload_n (by exact dc_Tl_shownCount 0 rfl) (by exact rfl) ?_
  refine rn_getf (v := .int (T_nodeCount t)) fd_Tl_24 (by exact dc_Tl_shownCount 1 rfl) (by exact rfl) (by exact rfl) ?_
  refine rn_bipush (v := (100 : Int32)) (by exact dc_Tl_shownCount 2 rfl) (by decide) ?_
  refine rn_mmin mm_Tl_28 mm_1 mm_2 mm_3 (by exact dc_Tl_shownCount 3 rfl) (by decide) (by decide) ?_
  cases h
  exact rn_ireturn (by exact dc_Tl_shownCount 4 rfl) (by exact rfl)
def F_Tl_keepPlace (t : tT) (v0 : Int32) (v1 : Int32) (v2 : Int32) (v3 : Int32) : Option tT :=
  Option.bind (aS (T_symbols t) 100 v0 v1) fun f1 =>
  Option.bind (aS (T_starts t) 100 v0 v2) fun f4 =>
  Option.bind (aS (T_ends t) 100 v0 v3) fun f7 =>
  some (T_rules t, f4, f7, f1, T_nodeCount t)
set_option maxHeartbeats 4000000 in
set_option maxRecDepth 100000 in
theorem c_Tl_keepPlace {Z : rn_Z} {g1 g2 : Nat} {x : tX} {d : tD} {c : tC} {u : tU} {t : tT} {a : tG} {b : tG} {m : tM} {o : tO} {E : List rn_C} {v0 : Int32} {v1 : Int32} {v2 : Int32} {v3 : Int32} {tR : tT} (h : F_Tl_keepPlace t v0 v1 v2 v3 = some tR) : Call Z M_Tl_keepPlace [.ref 30, .int v0, .int v1, .int v2, .int v3] (emb g1 g2 x d c u t a b m o E) 0 0 none (emb g1 g2 x d c u tR a b m o E) := by
  unfold F_Tl_keepPlace at h
  refine rn_call (by decide) 0 (by exact Nat.le_of_ble_eq_true rfl) ?_
  show Rn Z M_Tl_keepPlace 0 [some (.ref 30), some (.int v0), some (.int v1), some (.int v2), some (.int v3)] [] (emb g1 g2 x d c u t a b m o E) 0 0 _
  refine rn_aload_n (by exact dc_Tl_keepPlace 0 rfl) (by exact rfl) ?_
  refine rn_getf (v := .ref 34) fd_Tl_21 (by exact dc_Tl_keepPlace 1 rfl) (by exact rfl) (by exact rfl) ?_
  refine rn_iload_n (by exact dc_Tl_keepPlace 2 rfl) (by exact rfl) ?_
  refine rn_iload_n (by exact dc_Tl_keepPlace 3 rfl) (by exact rfl) ?_
  obtain ⟨f1, e2, h3⟩ := rn_bind h
  clear h
  refine rn_iastore (w2 := (emb g1 g2 x d c u (T_rules t, T_starts t, T_ends t, f1, T_nodeCount t) a b m o E)) (by exact dc_Tl_keepPlace 4 rfl) (by exact rfl) e2 (by exact rfl) ?_
  refine rn_aload_n (by exact dc_Tl_keepPlace 5 rfl) (by exact rfl) ?_
  refine rn_getf (v := .ref 32) fd_Tl_15 (by exact dc_Tl_keepPlace 6 rfl) (by exact rfl) (by exact rfl) ?_
  refine rn_iload_n (by exact dc_Tl_keepPlace 7 rfl) (by exact rfl) ?_
  refine rn_iload_n (by exact dc_Tl_keepPlace 8 rfl) (by exact rfl) ?_
  obtain ⟨f4, e5, h6⟩ := rn_bind h3
  clear h3
  refine rn_iastore (w2 := (emb g1 g2 x d c u (T_rules t, f4, T_ends t, f1, T_nodeCount t) a b m o E)) (by exact dc_Tl_keepPlace 9 rfl) (by exact rfl) e5 (by exact rfl) ?_
  refine rn_aload_n (by exact dc_Tl_keepPlace 10 rfl) (by exact rfl) ?_
  refine rn_getf (v := .ref 33) fd_Tl_18 (by exact dc_Tl_keepPlace 11 rfl) (by exact rfl) (by exact rfl) ?_
  refine rn_iload_n (by exact dc_Tl_keepPlace 12 rfl) (by exact rfl) ?_
  refine rn_iload (by exact dc_Tl_keepPlace 13 rfl) (by exact rfl) ?_
  obtain ⟨f7, e8, h9⟩ := rn_bind h6
  clear h6
  refine rn_iastore (w2 := (emb g1 g2 x d c u (T_rules t, f4, f7, f1, T_nodeCount t) a b m o E)) (by exact dc_Tl_keepPlace 14 rfl) (by exact rfl) e8 (by exact rfl) ?_
  cases h9
  exact rn_return (by exact dc_Tl_keepPlace 15 rfl) (by exact rfl)
def F_Ch_lengthOf (c : tC) (v0 : Int32) (v1 : Int32) : Option Int32 :=
  Option.bind (aG (C_lengths c) 390 v0) fun x1 =>
  some ((x1 >>> (((4 : Int32) * v1) &&& 31)) &&& (15 : Int32))
set_option maxHeartbeats 4000000 in
set_option maxRecDepth 100000 in
theorem c_Ch_lengthOf {Z : rn_Z} {g1 g2 : Nat} {x : tX} {d : tD} {c : tC} {u : tU} {t : tT} {a : tG} {b : tG} {m : tM} {o : tO} {E : List rn_C} {v0 : Int32} {v1 : Int32} {res : Int32} (h : F_Ch_lengthOf c v0 v1 = some res) : Call Z M_Ch_lengthOf [.ref 4, .int v0, .int v1] (emb g1 g2 x d c u t a b m o E) 0 0 (some (.int res)) (emb g1 g2 x d c u t a b m o E) := by
  unfold F_Ch_lengthOf at h
  refine rn_call (by decide) 0 (by exact Nat.le_of_ble_eq_true rfl) ?_
  show Rn Z M_Ch_lengthOf 0 [some (.ref 4), some (.int v0), some (.int v1)] [] (emb g1 g2 x d c u t a b m o E) 0 0 _
  refine rn_aload_n (by exact dc_Ch_lengthOf 0 rfl) (by exact rfl) ?_
  refine rn_getf (v := .ref 9) fd_Ch_25 (by exact dc_Ch_lengthOf 1 rfl) (by exact rfl) (by exact rfl) ?_
  refine rn_iload_n (by exact dc_Ch_lengthOf 2 rfl) (by exact rfl) ?_
  obtain ⟨x1, e2, h3⟩ := rn_bind h
  clear h
  refine rn_iaload (by exact dc_Ch_lengthOf 3 rfl) (by exact rfl) e2 ?_
  refine rn_iconst (v := (4 : Int32)) (by exact dc_Ch_lengthOf 4 rfl) (by decide) ?_
  refine rn_iload_n (by exact dc_Ch_lengthOf 5 rfl) (by exact rfl) ?_
  refine rn_imul (by exact dc_Ch_lengthOf 6 rfl) ?_
  refine rn_ishr (by exact dc_Ch_lengthOf 7 rfl) ?_
  refine rn_bipush (v := (15 : Int32)) (by exact dc_Ch_lengthOf 8 rfl) (by decide) ?_
  refine rn_iand (by exact dc_Ch_lengthOf 9 rfl) ?_
  cases h3
  exact rn_ireturn (by exact dc_Ch_lengthOf 10 rfl) (by exact rfl)
def F_Tl_expand_L56 (c : tC) (a : tG) (l4 : Int32) (l5 : Int32) : Nat → tT → Int32 → Int32 → Int32 → Option tT
  | 0, _, _, _, _ => none
  | n + 1, t, l6, l7, l8 =>
    Option.bind (aG (G_bodyLengths a) 12 l5) fun x1 =>
    if x1 ≤ l8 then (
      some t
    ) else (
      Option.bind (F_Gr_symbol a l5 l8) fun x6 =>
      Option.bind (F_Ch_lengthOf c l4 l8) fun x9 =>
      Option.bind (F_Gr_isNonterminal  x6) fun x12 =>
      Option.bind (
        if x12 = 0 then (
          some ((l6 : Int32), t)
        ) else (
          Option.bind (
            if (100 : Int32) ≤ l6 then (
              some t
            ) else (
              Option.bind (F_Tl_keepPlace t l6 x6 l7 (l7 + x9)) fun t26 =>
              some t26
            )
           : Option tT) fun t20 =>
          Option.bind (F_Ch_cell  x6 l7 (l7 + x9)) fun x29 =>
          Option.bind (aG (C_sizes c) 390 x29) fun x31 =>
          some ((l6 + x31 : Int32), t20)
        )
       : Option (Int32 × tT)) fun (y14, t15) =>
      F_Tl_expand_L56 c a l4 l5 n t15 y14 (l7 + x9) (l8 + 1)
    )
set_option maxHeartbeats 4000000 in
set_option maxRecDepth 100000 in
theorem p_Tl_expand_L56 {Z : rn_Z} {g1 g2 : Nat} {x : tX} {d : tD} {c : tC} {u : tU}  {a : tG} {b : tG} {m : tM} {o : tO} {E : List rn_C}  {l4 : Int32} {l5 : Int32} {K : rn_K} {tz : tT} (hx : Rn Z M_Tl_expand 147 [none, none, none, none, none, none, none, none, none, none, none] [] (emb g1 g2 x d c u tz a b m o E) 0 0 K) (n : Nat) : ∀ (t : tT) (l6 : Int32) (l7 : Int32) (l8 : Int32), F_Tl_expand_L56 c a l4 l5 n t l6 l7 l8 = some tz → Rn Z M_Tl_expand 56 [some (.ref 30), some (.ref 35), some (.ref 4), none, some (.int l4), some (.int l5), some (.int l6), some (.int l7), some (.int l8), none, none] [] (emb g1 g2 x d c u t a b m o E) 0 0 K := by
  induction n with
  | zero =>
    intro t l6 l7 l8 h
    rw [F_Tl_expand_L56] at h
    cases h
  | succ n ih =>
    intro t l6 l7 l8 h
    rw [F_Tl_expand_L56] at h
    refine rn_iload (by exact dc_Tl_expand 35 rfl) (by exact rfl) ?_
    refine rn_aload_n (by exact dc_Tl_expand 36 rfl) (by exact rfl) ?_
    refine rn_getf (v := .ref 38) fd_Tl_56 (by exact dc_Tl_expand 37 rfl) (by exact rfl) (by exact rfl) ?_
    refine rn_iload (by exact dc_Tl_expand 38 rfl) (by exact rfl) ?_
    obtain ⟨x1, e2, h3⟩ := rn_bind h
    clear h
    refine rn_iaload (by exact dc_Tl_expand 39 rfl) (by exact rfl) e2 ?_
    by_cases c4 : x1 ≤ l8
    · replace h3 := rn_ifp c4 h3
      refine rn_icmp_ge_t 147 (by exact dc_Tl_expand 40 rfl) (by exact rfl) c4 ?_
      cases h3
      exact rn_weak _ (by repeat (first | exact rn_le_0 | apply rn_le_s | apply rn_le_x)) hx
    · replace h3 := rn_ifn c4 h3
      refine rn_icmp_ge_f 147 (by exact dc_Tl_expand 40 rfl) (by exact rfl) c4 ?_
      refine rn_aload_n (by exact dc_Tl_expand 41 rfl) (by exact rfl) ?_
      refine rn_iload (by exact dc_Tl_expand 42 rfl) (by exact rfl) ?_
      refine rn_iload (by exact dc_Tl_expand 43 rfl) (by exact rfl) ?_
      obtain ⟨x6, e5, h7⟩ := rn_bind h3
      clear h3
      refine rn_invV0 (by exact c_Gr_symbol e5) iv_Tl_61 (by exact ⟨Nat.le_of_ble_eq_true rfl, Nat.le_of_ble_eq_true rfl⟩) (by exact dc_Tl_expand 44 rfl) (by exact rfl) (by exact rfl) (by exact rfl) (by exact Nat.le_of_ble_eq_true rfl) ?_
      show Rn _ _ 76 [some (.ref 30), some (.ref 35), some (.ref 4), none, some (.int l4), some (.int l5), some (.int l6), some (.int l7), some (.int l8), none, none] [.int x6] (emb g1 g2 x d c u t a b m o E) _ _ _
      refine rn_istore (ls' := [some (.ref 30), some (.ref 35), some (.ref 4), none, some (.int l4), some (.int l5), some (.int l6), some (.int l7), some (.int l8), some (.int x6), none]) (by exact dc_Tl_expand 45 rfl) (by decide) (by exact rfl) ?_
      refine rn_iload (by exact dc_Tl_expand 46 rfl) (by exact rfl) ?_
      refine rn_aload_n (by exact dc_Tl_expand 47 rfl) (by exact rfl) ?_
      refine rn_iload (by exact dc_Tl_expand 48 rfl) (by exact rfl) ?_
      refine rn_iload (by exact dc_Tl_expand 49 rfl) (by exact rfl) ?_
      obtain ⟨x9, e8, h10⟩ := rn_bind h7
      clear h7
      refine rn_invV0 (by exact c_Ch_lengthOf e8) iv_Tl_64 (by exact ⟨Nat.le_of_ble_eq_true rfl, Nat.le_of_ble_eq_true rfl⟩) (by exact dc_Tl_expand 50 rfl) (by exact rfl) (by exact rfl) (by exact rfl) (by exact Nat.le_of_ble_eq_true rfl) ?_
      show Rn _ _ 88 [some (.ref 30), some (.ref 35), some (.ref 4), none, some (.int l4), some (.int l5), some (.int l6), some (.int l7), some (.int l8), some (.int x6), none] [.int x9, .int l7] (emb g1 g2 x d c u t a b m o E) _ _ _
      refine rn_iadd (by exact dc_Tl_expand 51 rfl) ?_
      refine rn_istore (ls' := [some (.ref 30), some (.ref 35), some (.ref 4), none, some (.int l4), some (.int l5), some (.int l6), some (.int l7), some (.int l8), some (.int x6), some (.int (l7 + x9))]) (by exact dc_Tl_expand 52 rfl) (by decide) (by exact rfl) ?_
      refine rn_iload (by exact dc_Tl_expand 53 rfl) (by exact rfl) ?_
      obtain ⟨x12, e11, h13⟩ := rn_bind h10
      clear h10
      refine rn_invS0 (by exact c_Gr_isNonterminal e11) is_Tl_67 (by exact ⟨Nat.le_of_ble_eq_true rfl, Nat.le_of_ble_eq_true rfl⟩) (by exact dc_Tl_expand 54 rfl) (by exact rfl) (by exact rfl) (by exact Nat.le_of_ble_eq_true rfl) ?_
      show Rn _ _ 96 [some (.ref 30), some (.ref 35), some (.ref 4), none, some (.int l4), some (.int l5), some (.int l6), some (.int l7), some (.int l8), some (.int x6), some (.int (l7 + x9))] [.int x12] (emb g1 g2 x d c u t a b m o E) _ _ _
      obtain ⟨⟨y14, t15⟩, e16, h18⟩ := rn_bind h13
      clear h13
      dsimp only at h18
      have jq17 : Rn Z M_Tl_expand 137 [some (.ref 30), some (.ref 35), some (.ref 4), none, some (.int l4), some (.int l5), some (.int y14), none, some (.int l8), none, some (.int (l7 + x9))] [] (emb g1 g2 x d c u t15 a b m o E) 0 0 K := by
        refine rn_iload (by exact dc_Tl_expand 75 rfl) (by exact rfl) ?_
        refine rn_istore (ls' := [some (.ref 30), some (.ref 35), some (.ref 4), none, some (.int l4), some (.int l5), some (.int y14), some (.int (l7 + x9)), some (.int l8), none, some (.int (l7 + x9))]) (by exact dc_Tl_expand 76 rfl) (by decide) (by exact rfl) ?_
        refine rn_iinc (ls' := [some (.ref 30), some (.ref 35), some (.ref 4), none, some (.int l4), some (.int l5), some (.int y14), some (.int (l7 + x9)), some (.int (l8 + 1)), none, some (.int (l7 + x9))]) (by exact dc_Tl_expand 77 rfl) (by decide) (by exact rfl) (by exact rn_inc_1 _) (by exact rfl) ?_
        refine rn_goto 56 (by exact dc_Tl_expand 78 rfl) (by exact rfl) ?_
        exact rn_weak _ (by repeat (first | exact rn_le_0 | apply rn_le_s | apply rn_le_x)) (ih _ _ _ _ h18)
      by_cases c19 : x12 = 0
      · replace e16 := rn_ifp c19 e16
        refine rn_if_eq_t 137 (by exact dc_Tl_expand 55 rfl) (by exact rfl) c19 ?_
        cases e16
        exact rn_weak _ (by repeat (first | exact rn_le_0 | apply rn_le_s | apply rn_le_x)) jq17
      · replace e16 := rn_ifn c19 e16
        refine rn_if_eq_f 137 (by exact dc_Tl_expand 55 rfl) (by exact rfl) c19 ?_
        refine rn_iload (by exact dc_Tl_expand 56 rfl) (by exact rfl) ?_
        refine rn_bipush (v := (100 : Int32)) (by exact dc_Tl_expand 57 rfl) (by decide) ?_
        obtain ⟨t20, e21, h23⟩ := rn_bind e16
        clear e16
        have jq22 : Rn Z M_Tl_expand 118 [some (.ref 30), some (.ref 35), some (.ref 4), none, some (.int l4), some (.int l5), some (.int l6), some (.int l7), some (.int l8), some (.int x6), some (.int (l7 + x9))] [] (emb g1 g2 x d c u t20 a b m o E) 0 0 K := by
          refine rn_iload (by exact dc_Tl_expand 65 rfl) (by exact rfl) ?_
          refine rn_aload_n (by exact dc_Tl_expand 66 rfl) (by exact rfl) ?_
          refine rn_getf (v := .ref 8) fd_Tl_34 (by exact dc_Tl_expand 67 rfl) (by exact rfl) (by exact rfl) ?_
          refine rn_iload (by exact dc_Tl_expand 68 rfl) (by exact rfl) ?_
          refine rn_iload (by exact dc_Tl_expand 69 rfl) (by exact rfl) ?_
          refine rn_iload (by exact dc_Tl_expand 70 rfl) (by exact rfl) ?_
          obtain ⟨x29, e28, h30⟩ := rn_bind h23
          clear h23
          refine rn_invS0 (by exact c_Ch_cell e28) is_Tl_39 (by exact ⟨Nat.le_of_ble_eq_true rfl, Nat.le_of_ble_eq_true rfl⟩) (by exact dc_Tl_expand 71 rfl) (by exact rfl) (by exact rfl) (by exact Nat.le_of_ble_eq_true rfl) ?_
          show Rn _ _ 133 [some (.ref 30), some (.ref 35), some (.ref 4), none, some (.int l4), some (.int l5), some (.int l6), some (.int l7), some (.int l8), some (.int x6), some (.int (l7 + x9))] [.int x29, .ref 8, .int l6] (emb g1 g2 x d c u t20 a b m o E) _ _ _
          obtain ⟨x31, e32, h33⟩ := rn_bind h30
          clear h30
          refine rn_iaload (by exact dc_Tl_expand 72 rfl) (by exact rfl) e32 ?_
          refine rn_iadd (by exact dc_Tl_expand 73 rfl) ?_
          refine rn_istore (ls' := [some (.ref 30), some (.ref 35), some (.ref 4), none, some (.int l4), some (.int l5), some (.int (l6 + x31)), some (.int l7), some (.int l8), some (.int x6), some (.int (l7 + x9))]) (by exact dc_Tl_expand 74 rfl) (by decide) (by exact rfl) ?_
          cases h33
          exact rn_weak _ (by repeat (first | exact rn_le_0 | apply rn_le_s | apply rn_le_x)) jq17
        by_cases c24 : (100 : Int32) ≤ l6
        · replace e21 := rn_ifp c24 e21
          refine rn_icmp_ge_t 118 (by exact dc_Tl_expand 58 rfl) (by exact rfl) c24 ?_
          cases e21
          exact rn_weak _ (by repeat (first | exact rn_le_0 | apply rn_le_s | apply rn_le_x)) jq22
        · replace e21 := rn_ifn c24 e21
          refine rn_icmp_ge_f 118 (by exact dc_Tl_expand 58 rfl) (by exact rfl) c24 ?_
          refine rn_aload_n (by exact dc_Tl_expand 59 rfl) (by exact rfl) ?_
          refine rn_iload (by exact dc_Tl_expand 60 rfl) (by exact rfl) ?_
          refine rn_iload (by exact dc_Tl_expand 61 rfl) (by exact rfl) ?_
          refine rn_iload (by exact dc_Tl_expand 62 rfl) (by exact rfl) ?_
          refine rn_iload (by exact dc_Tl_expand 63 rfl) (by exact rfl) ?_
          obtain ⟨t26, e25, h27⟩ := rn_bind e21
          clear e21
          refine rn_invV0 (by exact c_Tl_keepPlace e25) iv_Tl_43 (by exact ⟨Nat.le_of_ble_eq_true rfl, Nat.le_of_ble_eq_true rfl⟩) (by exact dc_Tl_expand 64 rfl) (by exact rfl) (by exact rfl) (by exact rfl) (by exact Nat.le_of_ble_eq_true rfl) ?_
          show Rn _ _ 118 [some (.ref 30), some (.ref 35), some (.ref 4), none, some (.int l4), some (.int l5), some (.int l6), some (.int l7), some (.int l8), some (.int x6), some (.int (l7 + x9))] [] (emb g1 g2 x d c u t26 a b m o E) _ _ _
          cases h27
          exact rn_weak _ (by repeat (first | exact rn_le_0 | apply rn_le_s | apply rn_le_x)) jq22
def F_Tl_expand (c : tC) (t : tT) (a : tG) (v0 : Int32) : Option tT :=
  Option.bind (aG (T_symbols t) 100 v0) fun x1 =>
  Option.bind (aG (T_starts t) 100 v0) fun x4 =>
  Option.bind (aG (T_ends t) 100 v0) fun x7 =>
  Option.bind (F_Ch_cell  x1 x4 x7) fun x11 =>
  Option.bind (aG (C_rules c) 390 x11) fun x13 =>
  Option.bind (aS (T_rules t) 100 v0 x13) fun f16 =>
  Option.bind (aG (T_starts t) 100 v0) fun x19 =>
  Option.bind (F_Tl_expand_L56 c a x11 x13 rn_fu (f16, T_starts t, T_ends t, T_symbols t, T_nodeCount t) (v0 + (1 : Int32)) x19 (0 : Int32)) fun t25 =>
  some t25
set_option maxHeartbeats 4000000 in
set_option maxRecDepth 100000 in
theorem c_Tl_expand {Z : rn_Z} {g1 g2 : Nat} {x : tX} {d : tD} {c : tC} {u : tU} {t : tT} {a : tG} {b : tG} {m : tM} {o : tO} {E : List rn_C} {v0 : Int32} {tR : tT} (h : F_Tl_expand c t a v0 = some tR) : Call Z M_Tl_expand [.ref 30, .ref 35, .ref 4, .int v0] (emb g1 g2 x d c u t a b m o E) 0 0 none (emb g1 g2 x d c u tR a b m o E) := by
  unfold F_Tl_expand at h
  refine rn_call (by decide) 7 (by exact Nat.le_of_ble_eq_true rfl) ?_
  show Rn Z M_Tl_expand 0 [some (.ref 30), some (.ref 35), some (.ref 4), some (.int v0), none, none, none, none, none, none, none] [] (emb g1 g2 x d c u t a b m o E) 0 0 _
  refine rn_aload_n (by exact dc_Tl_expand 0 rfl) (by exact rfl) ?_
  refine rn_getf (v := .ref 34) fd_Tl_21 (by exact dc_Tl_expand 1 rfl) (by exact rfl) (by exact rfl) ?_
  refine rn_iload_n (by exact dc_Tl_expand 2 rfl) (by exact rfl) ?_
  obtain ⟨x1, e2, h3⟩ := rn_bind h
  clear h
  refine rn_iaload (by exact dc_Tl_expand 3 rfl) (by exact rfl) e2 ?_
  refine rn_aload_n (by exact dc_Tl_expand 4 rfl) (by exact rfl) ?_
  refine rn_getf (v := .ref 32) fd_Tl_15 (by exact dc_Tl_expand 5 rfl) (by exact rfl) (by exact rfl) ?_
  refine rn_iload_n (by exact dc_Tl_expand 6 rfl) (by exact rfl) ?_
  obtain ⟨x4, e5, h6⟩ := rn_bind h3
  clear h3
  refine rn_iaload (by exact dc_Tl_expand 7 rfl) (by exact rfl) e5 ?_
  refine rn_aload_n (by exact dc_Tl_expand 8 rfl) (by exact rfl) ?_
  refine rn_getf (v := .ref 33) fd_Tl_18 (by exact dc_Tl_expand 9 rfl) (by exact rfl) (by exact rfl) ?_
  refine rn_iload_n (by exact dc_Tl_expand 10 rfl) (by exact rfl) ?_
  obtain ⟨x7, e8, h9⟩ := rn_bind h6
  clear h6
  refine rn_iaload (by exact dc_Tl_expand 11 rfl) (by exact rfl) e8 ?_
  obtain ⟨x11, e10, h12⟩ := rn_bind h9
  clear h9
  refine rn_invS0 (by exact c_Ch_cell e10) is_Tl_39 (by exact ⟨Nat.le_of_ble_eq_true rfl, Nat.le_of_ble_eq_true rfl⟩) (by exact dc_Tl_expand 12 rfl) (by exact rfl) (by exact rfl) (by exact Nat.le_of_ble_eq_true rfl) ?_
  show Rn _ _ 21 [some (.ref 30), some (.ref 35), some (.ref 4), some (.int v0), none, none, none, none, none, none, none] [.int x11] (emb g1 g2 x d c u t a b m o E) _ _ _
  refine rn_istore (ls' := [some (.ref 30), some (.ref 35), some (.ref 4), some (.int v0), some (.int x11), none, none, none, none, none, none]) (by exact dc_Tl_expand 13 rfl) (by decide) (by exact rfl) ?_
  refine rn_aload_n (by exact dc_Tl_expand 14 rfl) (by exact rfl) ?_
  refine rn_getf (v := .ref 7) fd_Tl_55 (by exact dc_Tl_expand 15 rfl) (by exact rfl) (by exact rfl) ?_
  refine rn_iload (by exact dc_Tl_expand 16 rfl) (by exact rfl) ?_
  obtain ⟨x13, e14, h15⟩ := rn_bind h12
  clear h12
  refine rn_iaload (by exact dc_Tl_expand 17 rfl) (by exact rfl) e14 ?_
  refine rn_istore (ls' := [some (.ref 30), some (.ref 35), some (.ref 4), some (.int v0), some (.int x11), some (.int x13), none, none, none, none, none]) (by exact dc_Tl_expand 18 rfl) (by decide) (by exact rfl) ?_
  refine rn_aload_n (by exact dc_Tl_expand 19 rfl) (by exact rfl) ?_
  refine rn_getf (v := .ref 31) fd_Tl_9 (by exact dc_Tl_expand 20 rfl) (by exact rfl) (by exact rfl) ?_
  refine rn_iload_n (by exact dc_Tl_expand 21 rfl) (by exact rfl) ?_
  refine rn_iload (by exact dc_Tl_expand 22 rfl) (by exact rfl) ?_
  obtain ⟨f16, e17, h18⟩ := rn_bind h15
  clear h15
  refine rn_iastore (w2 := (emb g1 g2 x d c u (f16, T_starts t, T_ends t, T_symbols t, T_nodeCount t) a b m o E)) (by exact dc_Tl_expand 23 rfl) (by exact rfl) e17 (by exact rfl) ?_
  refine rn_iload_n (by exact dc_Tl_expand 24 rfl) (by exact rfl) ?_
  refine rn_iconst (v := (1 : Int32)) (by exact dc_Tl_expand 25 rfl) (by decide) ?_
  refine rn_iadd (by exact dc_Tl_expand 26 rfl) ?_
  refine rn_istore (ls' := [some (.ref 30), some (.ref 35), some (.ref 4), some (.int v0), some (.int x11), some (.int x13), some (.int (v0 + (1 : Int32))), none, none, none, none]) (by exact dc_Tl_expand 27 rfl) (by decide) (by exact rfl) ?_
  refine rn_aload_n (by exact dc_Tl_expand 28 rfl) (by exact rfl) ?_
  refine rn_getf (v := .ref 32) fd_Tl_15 (by exact dc_Tl_expand 29 rfl) (by exact rfl) (by exact rfl) ?_
  refine rn_iload_n (by exact dc_Tl_expand 30 rfl) (by exact rfl) ?_
  obtain ⟨x19, e20, h21⟩ := rn_bind h18
  clear h18
  refine rn_iaload (by exact dc_Tl_expand 31 rfl) (by exact rfl) e20 ?_
  refine rn_istore (ls' := [some (.ref 30), some (.ref 35), some (.ref 4), some (.int v0), some (.int x11), some (.int x13), some (.int (v0 + (1 : Int32))), some (.int x19), none, none, none]) (by exact dc_Tl_expand 32 rfl) (by decide) (by exact rfl) ?_
  refine rn_iconst (v := (0 : Int32)) (by exact dc_Tl_expand 33 rfl) (by decide) ?_
  refine rn_istore (ls' := [some (.ref 30), some (.ref 35), some (.ref 4), some (.int v0), some (.int x11), some (.int x13), some (.int (v0 + (1 : Int32))), some (.int x19), some (.int (0 : Int32)), none, none]) (by exact dc_Tl_expand 34 rfl) (by decide) (by exact rfl) ?_
  obtain ⟨t25, e22, h24⟩ := rn_bind h21
  clear h21
  have jx23 : Rn Z M_Tl_expand 147 [none, none, none, none, none, none, none, none, none, none, none] [] (emb g1 g2 x d c u t25 a b m o E) 0 0 (rn_Ret Z none (emb g1 g2 x d c u tR a b m o E)) := by
    cases h24
    exact rn_return (by exact dc_Tl_expand 79 rfl) (by exact rfl)
  exact rn_weak _ (by repeat (first | exact rn_le_0 | apply rn_le_s | apply rn_le_x)) (p_Tl_expand_L56 jx23 _ _ _ _ _ e22)
end
section
def F_Tl_list_L36 (c : tC) (a : tG) (l6 : Int32) : Nat → tT → Int32 → Option tT
  | 0, _, _ => none
  | n + 1, t, l7 =>
    if l6 ≤ l7 then (
      some t
    ) else (
      Option.bind (F_Tl_expand c t a l7) fun t3 =>
      F_Tl_list_L36 c a l6 n t3 (l7 + 1)
    )
set_option maxHeartbeats 4000000 in
set_option maxRecDepth 100000 in
theorem p_Tl_list_L36 {Z : rn_Z} {g1 g2 : Nat} {x : tX} {d : tD} {c : tC} {u : tU}  {a : tG} {b : tG} {m : tM} {o : tO} {E : List rn_C}  {l6 : Int32} {K : rn_K} {tz : tT} (hx : Rn Z M_Tl_list 57 [none, none, none, none, none, none, none, none] [] (emb g1 g2 x d c u tz a b m o E) 0 0 K) (n : Nat) : ∀ (t : tT) (l7 : Int32), F_Tl_list_L36 c a l6 n t l7 = some tz → Rn Z M_Tl_list 36 [some (.ref 30), some (.ref 35), some (.ref 4), none, none, none, some (.int l6), some (.int l7)] [] (emb g1 g2 x d c u t a b m o E) 0 0 K := by
  induction n with
  | zero =>
    intro t l7 h
    rw [F_Tl_list_L36] at h
    cases h
  | succ n ih =>
    intro t l7 h
    rw [F_Tl_list_L36] at h
    refine rn_iload (by exact dc_Tl_list 20 rfl) (by exact rfl) ?_
    refine rn_iload (by exact dc_Tl_list 21 rfl) (by exact rfl) ?_
    by_cases c1 : l6 ≤ l7
    · replace h := rn_ifp c1 h
      refine rn_icmp_ge_t 57 (by exact dc_Tl_list 22 rfl) (by exact rfl) c1 ?_
      cases h
      exact rn_weak _ (by repeat (first | exact rn_le_0 | apply rn_le_s | apply rn_le_x)) hx
    · replace h := rn_ifn c1 h
      refine rn_icmp_ge_f 57 (by exact dc_Tl_list 22 rfl) (by exact rfl) c1 ?_
      refine rn_aload_n (by exact dc_Tl_list 23 rfl) (by exact rfl) ?_
      refine rn_aload_n (by exact dc_Tl_list 24 rfl) (by exact rfl) ?_
      refine rn_aload_n (by exact dc_Tl_list 25 rfl) (by exact rfl) ?_
      refine rn_iload (by exact dc_Tl_list 26 rfl) (by exact rfl) ?_
      obtain ⟨t3, e2, h4⟩ := rn_bind h
      clear h
      refine rn_invV0 (by exact c_Tl_expand e2) iv_Tl_51 (by exact ⟨Nat.le_of_ble_eq_true rfl, Nat.le_of_ble_eq_true rfl⟩) (by exact dc_Tl_list 27 rfl) (by exact rfl) (by exact rfl) (by exact rfl) (by exact Nat.le_of_ble_eq_true rfl) ?_
      show Rn _ _ 51 [some (.ref 30), some (.ref 35), some (.ref 4), none, none, none, some (.int l6), some (.int l7)] [] (emb g1 g2 x d c u t3 a b m o E) _ _ _
      refine rn_iinc (ls' := [some (.ref 30), some (.ref 35), some (.ref 4), none, none, none, some (.int l6), some (.int (l7 + 1))]) (by exact dc_Tl_list 28 rfl) (by decide) (by exact rfl) (by exact rn_inc_1 _) (by exact rfl) ?_
      refine rn_goto 36 (by exact dc_Tl_list 29 rfl) (by exact rfl) ?_
      exact rn_weak _ (by repeat (first | exact rn_le_0 | apply rn_le_s | apply rn_le_x)) (ih _ _ h4)
def F_Tl_list (c : tC) (t : tT) (a : tG) (v0 : Int32) (v1 : Int32) (v2 : Int32) : Option tT :=
  Option.bind (F_Ch_cell  v0 v1 v2) fun x2 =>
  Option.bind (aG (C_sizes c) 390 x2) fun x4 =>
  Option.bind (F_Tl_keepPlace (T_rules t, T_starts t, T_ends t, T_symbols t, x4) (0 : Int32) v0 v1 v2) fun t8 =>
  Option.bind (F_Tl_shownCount t8 ) fun x11 =>
  Option.bind (F_Tl_list_L36 c a x11 rn_fu t8 (0 : Int32)) fun t16 =>
  some t16
set_option maxHeartbeats 4000000 in
set_option maxRecDepth 100000 in
theorem c_Tl_list {Z : rn_Z} {g1 g2 : Nat} {x : tX} {d : tD} {c : tC} {u : tU} {t : tT} {a : tG} {b : tG} {m : tM} {o : tO} {E : List rn_C} {v0 : Int32} {v1 : Int32} {v2 : Int32} {tR : tT} (h : F_Tl_list c t a v0 v1 v2 = some tR) : Call Z M_Tl_list [.ref 30, .ref 35, .ref 4, .int v0, .int v1, .int v2] (emb g1 g2 x d c u t a b m o E) 0 0 none (emb g1 g2 x d c u tR a b m o E) := by
  unfold F_Tl_list at h
  refine rn_call (by decide) 2 (by exact Nat.le_of_ble_eq_true rfl) ?_
  show Rn Z M_Tl_list 0 [some (.ref 30), some (.ref 35), some (.ref 4), some (.int v0), some (.int v1), some (.int v2), none, none] [] (emb g1 g2 x d c u t a b m o E) 0 0 _
  refine rn_aload_n (by exact dc_Tl_list 0 rfl) (by exact rfl) ?_
  refine rn_aload_n (by exact dc_Tl_list 1 rfl) (by exact rfl) ?_
  refine rn_getf (v := .ref 8) fd_Tl_34 (by exact dc_Tl_list 2 rfl) (by exact rfl) (by exact rfl) ?_
  refine rn_iload_n (by exact dc_Tl_list 3 rfl) (by exact rfl) ?_
  refine rn_iload (by exact dc_Tl_list 4 rfl) (by exact rfl) ?_
  refine rn_iload (by exact dc_Tl_list 5 rfl) (by exact rfl) ?_
  obtain ⟨x2, e1, h3⟩ := rn_bind h
  clear h
  refine rn_invS0 (by exact c_Ch_cell e1) is_Tl_39 (by exact ⟨Nat.le_of_ble_eq_true rfl, Nat.le_of_ble_eq_true rfl⟩) (by exact dc_Tl_list 6 rfl) (by exact rfl) (by exact rfl) (by exact Nat.le_of_ble_eq_true rfl) ?_
  show Rn _ _ 13 [some (.ref 30), some (.ref 35), some (.ref 4), some (.int v0), some (.int v1), some (.int v2), none, none] [.int x2, .ref 8, .ref 30] (emb g1 g2 x d c u t a b m o E) _ _ _
  obtain ⟨x4, e5, h6⟩ := rn_bind h3
  clear h3
  refine rn_iaload (by exact dc_Tl_list 7 rfl) (by exact rfl) e5 ?_
  refine rn_putf (w2 := (emb g1 g2 x d c u (T_rules t, T_starts t, T_ends t, T_symbols t, x4) a b m o E)) fd_Tl_24 (by exact dc_Tl_list 8 rfl) (by exact rfl) (by exact rfl) (by exact Nat.le_of_ble_eq_true rfl) (by exact rfl) ?_
  refine rn_aload_n (by exact dc_Tl_list 9 rfl) (by exact rfl) ?_
  refine rn_iconst (v := (0 : Int32)) (by exact dc_Tl_list 10 rfl) (by decide) ?_
  refine rn_iload_n (by exact dc_Tl_list 11 rfl) (by exact rfl) ?_
  refine rn_iload (by exact dc_Tl_list 12 rfl) (by exact rfl) ?_
  refine rn_iload (by exact dc_Tl_list 13 rfl) (by exact rfl) ?_
  obtain ⟨t8, e7, h9⟩ := rn_bind h6
  clear h6
  refine rn_invV0 (by exact c_Tl_keepPlace e7) iv_Tl_43 (by exact ⟨Nat.le_of_ble_eq_true rfl, Nat.le_of_ble_eq_true rfl⟩) (by exact dc_Tl_list 14 rfl) (by exact rfl) (by exact rfl) (by exact rfl) (by exact Nat.le_of_ble_eq_true rfl) ?_
  show Rn _ _ 27 [some (.ref 30), some (.ref 35), some (.ref 4), some (.int v0), some (.int v1), some (.int v2), none, none] [] (emb g1 g2 x d c u t8 a b m o E) _ _ _
  refine rn_aload_n (by exact dc_Tl_list 15 rfl) (by exact rfl) ?_
  obtain ⟨x11, e10, h12⟩ := rn_bind h9
  clear h9
  refine rn_invV0 (by exact c_Tl_shownCount e10) iv_Tl_47 (by exact ⟨Nat.le_of_ble_eq_true rfl, Nat.le_of_ble_eq_true rfl⟩) (by exact dc_Tl_list 16 rfl) (by exact rfl) (by exact rfl) (by exact rfl) (by exact Nat.le_of_ble_eq_true rfl) ?_
  show Rn _ _ 31 [some (.ref 30), some (.ref 35), some (.ref 4), some (.int v0), some (.int v1), some (.int v2), none, none] [.int x11] (emb g1 g2 x d c u t8 a b m o E) _ _ _
  refine rn_istore (ls' := [some (.ref 30), some (.ref 35), some (.ref 4), some (.int v0), some (.int v1), some (.int v2), some (.int x11), none]) (by exact dc_Tl_list 17 rfl) (by decide) (by exact rfl) ?_
  refine rn_iconst (v := (0 : Int32)) (by exact dc_Tl_list 18 rfl) (by decide) ?_
  refine rn_istore (ls' := [some (.ref 30), some (.ref 35), some (.ref 4), some (.int v0), some (.int v1), some (.int v2), some (.int x11), some (.int (0 : Int32))]) (by exact dc_Tl_list 19 rfl) (by decide) (by exact rfl) ?_
  obtain ⟨t16, e13, h15⟩ := rn_bind h12
  clear h12
  have jx14 : Rn Z M_Tl_list 57 [none, none, none, none, none, none, none, none] [] (emb g1 g2 x d c u t16 a b m o E) 0 0 (rn_Ret Z none (emb g1 g2 x d c u tR a b m o E)) := by
    cases h15
    exact rn_return (by exact dc_Tl_list 30 rfl) (by exact rfl)
  exact rn_weak _ (by repeat (first | exact rn_le_0 | apply rn_le_s | apply rn_le_x)) (p_Tl_list_L36 jx14 _ _ _ e13)
def F_Md_thrown (m : tM)  : Option Int32 :=
  some (M_code m)
set_option maxHeartbeats 4000000 in
set_option maxRecDepth 100000 in
theorem c_Md_thrown {Z : rn_Z} {g1 g2 : Nat} {x : tX} {d : tD} {c : tC} {u : tU} {t : tT} {a : tG} {b : tG} {m : tM} {o : tO} {E : List rn_C}  {res : Int32} (h : F_Md_thrown m  = some res) : Call Z M_Md_thrown [.ref 53] (emb g1 g2 x d c u t a b m o E) 0 0 (some (.int res)) (emb g1 g2 x d c u t a b m o E) := by
  unfold F_Md_thrown at h
  refine rn_call (by decide) 0 (by exact Nat.le_of_ble_eq_true rfl) ?_
  show Rn Z M_Md_thrown 0 [some (.ref 53)] [] (emb g1 g2 x d c u t a b m o E) 0 0 _
  refine rn_aload_n (by exact dc_Md_thrown 0 rfl) (by exact rfl) ?_
  refine rn_getf (v := .int (M_code m)) fd_Md_77 (by exact dc_Md_thrown 1 rfl) (by exact rfl) (by exact rfl) ?_
  cases h
  exact rn_ireturn (by exact dc_Md_thrown 2 rfl) (by exact rfl)
def F_Md_put_L36 (l1 : Int32) (l2 : Int64) : Nat → Int32 → Int32 → Option Int32
  | 0, _, _ => none
  | n + 1, l4, l5 =>
    if l1 ≤ l5 then (
      some l4
    ) else (
      Option.bind (
        if l4 = 0 then (
          some (0 : Int32)
        ) else (
          if ((((l2.toUInt64 >>> (((8 : Int32) * l5).toInt64.toUInt64 &&& Int64.toUInt64 63)).toInt64) &&& (255 : Int64)).toInt32) = (10 : Int32) then (
            some (1 : Int32)
          ) else (
            if ((((l2.toUInt64 >>> (((8 : Int32) * l5).toInt64.toUInt64 &&& Int64.toUInt64 63)).toInt64) &&& (255 : Int64)).toInt32) < (32 : Int32) then (
              some (0 : Int32)
            ) else (
              if (126 : Int32) < ((((l2.toUInt64 >>> (((8 : Int32) * l5).toInt64.toUInt64 &&& Int64.toUInt64 63)).toInt64) &&& (255 : Int64)).toInt32) then (
                some (0 : Int32)
              ) else (
                some (1 : Int32)
              )
            )
          )
        )
       : Option Int32) fun y2 =>
      F_Md_put_L36 l1 l2 n y2 (l5 + 1)
    )
set_option maxHeartbeats 4000000 in
set_option maxRecDepth 100000 in
theorem p_Md_put_L36 {Z : rn_Z} {g1 g2 : Nat} {x : tX} {d : tD} {c : tC} {u : tU} {t : tT} {a : tG} {b : tG} {m : tM} {o : tO} {E : List rn_C}  {l1 : Int32} {l2 : Int64} {K : rn_K} {z4 : Int32} (hx : Rn Z M_Md_put 95 [some (.ref 53), some (.int l1), some (.long l2), none, some (.int z4), none, none] [] (emb g1 g2 x d c u t a b m o E) 0 0 K) (n : Nat) : ∀ (l4 : Int32) (l5 : Int32), F_Md_put_L36 l1 l2 n l4 l5 = some z4 → Rn Z M_Md_put 36 [some (.ref 53), some (.int l1), some (.long l2), none, some (.int l4), some (.int l5), none] [] (emb g1 g2 x d c u t a b m o E) 0 0 K := by
  induction n with
  | zero =>
    intro l4 l5 h
    rw [F_Md_put_L36] at h
    cases h
  | succ n ih =>
    intro l4 l5 h
    rw [F_Md_put_L36] at h
    refine rn_iload (by exact dc_Md_put 21 rfl) (by exact rfl) ?_
    refine rn_iload_n (by exact dc_Md_put 22 rfl) (by exact rfl) ?_
    by_cases c1 : l1 ≤ l5
    · replace h := rn_ifp c1 h
      refine rn_icmp_ge_t 95 (by exact dc_Md_put 23 rfl) (by exact rfl) c1 ?_
      cases h
      exact rn_weak _ (by repeat (first | exact rn_le_0 | apply rn_le_s | apply rn_le_x)) hx
    · replace h := rn_ifn c1 h
      refine rn_icmp_ge_f 95 (by exact dc_Md_put 23 rfl) (by exact rfl) c1 ?_
      refine rn_lload_n (by exact dc_Md_put 24 rfl) (by exact rfl) ?_
      refine rn_bipush (v := (8 : Int32)) (by exact dc_Md_put 25 rfl) (by decide) ?_
      refine rn_iload (by exact dc_Md_put 26 rfl) (by exact rfl) ?_
      refine rn_imul (by exact dc_Md_put 27 rfl) ?_
      refine rn_lushr (by exact dc_Md_put 28 rfl) ?_
      refine rn_ldc2 (v := (255 : Int64)) (by exact dc_Md_put 29 rfl) kl_Md_84 ?_
      refine rn_land (by exact dc_Md_put 30 rfl) ?_
      refine rn_l2i (by exact dc_Md_put 31 rfl) ?_
      refine rn_istore (ls' := [some (.ref 53), some (.int l1), some (.long l2), none, some (.int l4), some (.int l5), some (.int ((((l2.toUInt64 >>> (((8 : Int32) * l5).toInt64.toUInt64 &&& Int64.toUInt64 63)).toInt64) &&& (255 : Int64)).toInt32))]) (by exact dc_Md_put 32 rfl) (by decide) (by exact rfl) ?_
      refine rn_iload (by exact dc_Md_put 33 rfl) (by exact rfl) ?_
      obtain ⟨y2, e3, h5⟩ := rn_bind h
      clear h
      have jq4 : Rn Z M_Md_put 87 [some (.ref 53), some (.int l1), some (.long l2), none, none, some (.int l5), none] [.int y2] (emb g1 g2 x d c u t a b m o E) 0 0 K := by
        refine rn_istore (ls' := [some (.ref 53), some (.int l1), some (.long l2), none, some (.int y2), some (.int l5), none]) (by exact dc_Md_put 47 rfl) (by decide) (by exact rfl) ?_
        refine rn_iinc (ls' := [some (.ref 53), some (.int l1), some (.long l2), none, some (.int y2), some (.int (l5 + 1)), none]) (by exact dc_Md_put 48 rfl) (by decide) (by exact rfl) (by exact rn_inc_1 _) (by exact rfl) ?_
        refine rn_goto 36 (by exact dc_Md_put 49 rfl) (by exact rfl) ?_
        exact rn_weak _ (by repeat (first | exact rn_le_0 | apply rn_le_s | apply rn_le_x)) (ih _ _ h5)
      by_cases c6 : l4 = 0
      · replace e3 := rn_ifp c6 e3
        refine rn_if_eq_t 86 (by exact dc_Md_put 34 rfl) (by exact rfl) c6 ?_
        refine rn_iconst (v := (0 : Int32)) (by exact dc_Md_put 46 rfl) (by decide) ?_
        cases e3
        exact rn_weak _ (by repeat (first | exact rn_le_0 | apply rn_le_s | apply rn_le_x)) jq4
      · replace e3 := rn_ifn c6 e3
        refine rn_if_eq_f 86 (by exact dc_Md_put 34 rfl) (by exact rfl) c6 ?_
        refine rn_iload (by exact dc_Md_put 35 rfl) (by exact rfl) ?_
        refine rn_bipush (v := (10 : Int32)) (by exact dc_Md_put 36 rfl) (by decide) ?_
        by_cases c7 : ((((l2.toUInt64 >>> (((8 : Int32) * l5).toInt64.toUInt64 &&& Int64.toUInt64 63)).toInt64) &&& (255 : Int64)).toInt32) = (10 : Int32)
        · replace e3 := rn_ifp c7 e3
          refine rn_icmp_eq_t 82 (by exact dc_Md_put 37 rfl) (by exact rfl) c7 ?_
          refine rn_iconst (v := (1 : Int32)) (by exact dc_Md_put 44 rfl) (by decide) ?_
          refine rn_goto 87 (by exact dc_Md_put 45 rfl) (by exact rfl) ?_
          cases e3
          exact rn_weak _ (by repeat (first | exact rn_le_0 | apply rn_le_s | apply rn_le_x)) jq4
        · replace e3 := rn_ifn c7 e3
          refine rn_icmp_eq_f 82 (by exact dc_Md_put 37 rfl) (by exact rfl) c7 ?_
          refine rn_iload (by exact dc_Md_put 38 rfl) (by exact rfl) ?_
          refine rn_bipush (v := (32 : Int32)) (by exact dc_Md_put 39 rfl) (by decide) ?_
          by_cases c8 : ((((l2.toUInt64 >>> (((8 : Int32) * l5).toInt64.toUInt64 &&& Int64.toUInt64 63)).toInt64) &&& (255 : Int64)).toInt32) < (32 : Int32)
          · replace e3 := rn_ifp c8 e3
            refine rn_icmp_lt_t 86 (by exact dc_Md_put 40 rfl) (by exact rfl) c8 ?_
            refine rn_iconst (v := (0 : Int32)) (by exact dc_Md_put 46 rfl) (by decide) ?_
            cases e3
            exact rn_weak _ (by repeat (first | exact rn_le_0 | apply rn_le_s | apply rn_le_x)) jq4
          · replace e3 := rn_ifn c8 e3
            refine rn_icmp_lt_f 86 (by exact dc_Md_put 40 rfl) (by exact rfl) c8 ?_
            refine rn_iload (by exact dc_Md_put 41 rfl) (by exact rfl) ?_
            refine rn_bipush (v := (126 : Int32)) (by exact dc_Md_put 42 rfl) (by decide) ?_
            by_cases c9 : (126 : Int32) < ((((l2.toUInt64 >>> (((8 : Int32) * l5).toInt64.toUInt64 &&& Int64.toUInt64 63)).toInt64) &&& (255 : Int64)).toInt32)
            · replace e3 := rn_ifp c9 e3
              refine rn_icmp_gt_t 86 (by exact dc_Md_put 43 rfl) (by exact rfl) c9 ?_
              refine rn_iconst (v := (0 : Int32)) (by exact dc_Md_put 46 rfl) (by decide) ?_
              cases e3
              exact rn_weak _ (by repeat (first | exact rn_le_0 | apply rn_le_s | apply rn_le_x)) jq4
            · replace e3 := rn_ifn c9 e3
              refine rn_icmp_gt_f 86 (by exact dc_Md_put 43 rfl) (by exact rfl) c9 ?_
              refine rn_iconst (v := (1 : Int32)) (by exact dc_Md_put 44 rfl) (by decide) ?_
              refine rn_goto 87 (by exact dc_Md_put 45 rfl) (by exact rfl) ?_
              cases e3
              exact rn_weak _ (by repeat (first | exact rn_le_0 | apply rn_le_s | apply rn_le_x)) jq4
def F_Md_put_L100 (l2 : Int64) (l4 : Int32) : Nat → tM → Int32 → Option tM
  | 0, _, _ => none
  | n + 1, m, l5 =>
    if l5 < 0 then (
      some m
    ) else (
      if l4 = 0 then (
        some m
      ) else (
        Option.bind (aS (M_draft m) 300 (M_size m) ((((l2.toUInt64 >>> (((8 : Int32) * l5).toInt64.toUInt64 &&& Int64.toUInt64 63)).toInt64) &&& (255 : Int64)).toInt32)) fun f3 =>
        F_Md_put_L100 l2 l4 n (M_put_size (M_put_draft m f3) ((M_size (M_put_draft m f3)) + (1 : Int32))) (l5 + (-1))
      )
    )
set_option maxHeartbeats 4000000 in
set_option maxRecDepth 100000 in
theorem p_Md_put_L100 {Z : rn_Z} {g1 g2 : Nat} {x : tX} {d : tD} {c : tC} {u : tU} {t : tT} {a : tG} {b : tG}  {o : tO} {E : List rn_C}  {l2 : Int64} {l4 : Int32} {K : rn_K} {mz : tM} (hx : Rn Z M_Md_put 147 [none, none, none, none, some (.int l4), none, none] [] (emb g1 g2 x d c u t a b mz o E) 0 0 K) (n : Nat) : ∀ (m : tM) (l5 : Int32), F_Md_put_L100 l2 l4 n m l5 = some mz → Rn Z M_Md_put 100 [some (.ref 53), none, some (.long l2), none, some (.int l4), some (.int l5), none] [] (emb g1 g2 x d c u t a b m o E) 0 0 K := by
  induction n with
  | zero =>
    intro m l5 h
    rw [F_Md_put_L100] at h
    cases h
  | succ n ih =>
    intro m l5 h
    rw [F_Md_put_L100] at h
    refine rn_iload (by exact dc_Md_put 54 rfl) (by exact rfl) ?_
    by_cases c1 : l5 < 0
    · replace h := rn_ifp c1 h
      refine rn_if_lt_t 147 (by exact dc_Md_put 55 rfl) (by exact rfl) c1 ?_
      cases h
      exact rn_weak _ (by repeat (first | exact rn_le_0 | apply rn_le_s | apply rn_le_x)) hx
    · replace h := rn_ifn c1 h
      refine rn_if_lt_f 147 (by exact dc_Md_put 55 rfl) (by exact rfl) c1 ?_
      refine rn_iload (by exact dc_Md_put 56 rfl) (by exact rfl) ?_
      by_cases c2 : l4 = 0
      · replace h := rn_ifp c2 h
        refine rn_if_eq_t 147 (by exact dc_Md_put 57 rfl) (by exact rfl) c2 ?_
        cases h
        exact rn_weak _ (by repeat (first | exact rn_le_0 | apply rn_le_s | apply rn_le_x)) hx
      · replace h := rn_ifn c2 h
        refine rn_if_eq_f 147 (by exact dc_Md_put 57 rfl) (by exact rfl) c2 ?_
        refine rn_aload_n (by exact dc_Md_put 58 rfl) (by exact rfl) ?_
        refine rn_getf (v := .ref 54) fd_Md_7 (by exact dc_Md_put 59 rfl) (by exact rfl) (by exact rfl) ?_
        refine rn_aload_n (by exact dc_Md_put 60 rfl) (by exact rfl) ?_
        refine rn_getf (v := .int (M_size m)) fd_Md_81 (by exact dc_Md_put 61 rfl) (by exact rfl) (by exact rfl) ?_
        refine rn_lload_n (by exact dc_Md_put 62 rfl) (by exact rfl) ?_
        refine rn_bipush (v := (8 : Int32)) (by exact dc_Md_put 63 rfl) (by decide) ?_
        refine rn_iload (by exact dc_Md_put 64 rfl) (by exact rfl) ?_
        refine rn_imul (by exact dc_Md_put 65 rfl) ?_
        refine rn_lushr (by exact dc_Md_put 66 rfl) ?_
        refine rn_ldc2 (v := (255 : Int64)) (by exact dc_Md_put 67 rfl) kl_Md_84 ?_
        refine rn_land (by exact dc_Md_put 68 rfl) ?_
        refine rn_l2i (by exact dc_Md_put 69 rfl) ?_
        obtain ⟨f3, e4, h5⟩ := rn_bind h
        clear h
        refine rn_iastore (w2 := (emb g1 g2 x d c u t a b (M_put_draft m f3) o E)) (by exact dc_Md_put 70 rfl) (by exact rfl) e4 (by exact sm_draft) ?_
        refine rn_aload_n (by exact dc_Md_put 71 rfl) (by exact rfl) ?_
        refine rn_dup (by exact dc_Md_put 72 rfl) (by exact rfl) ?_
        refine rn_getf (v := .int (M_size (M_put_draft m f3))) fd_Md_81 (by exact dc_Md_put 73 rfl) (by exact rfl) (by exact rfl) ?_
        refine rn_iconst (v := (1 : Int32)) (by exact dc_Md_put 74 rfl) (by decide) ?_
        refine rn_iadd (by exact dc_Md_put 75 rfl) ?_
        refine rn_putf (w2 := (emb g1 g2 x d c u t a b (M_put_size (M_put_draft m f3) ((M_size (M_put_draft m f3)) + (1 : Int32))) o E)) fd_Md_81 (by exact dc_Md_put 76 rfl) (by exact rfl) (by exact rfl) (by exact Nat.le_of_ble_eq_true rfl) (by exact sm_size) ?_
        refine rn_iinc (ls' := [some (.ref 53), none, some (.long l2), none, some (.int l4), some (.int (l5 + (-1))), none]) (by exact dc_Md_put 77 rfl) (by decide) (by exact rfl) (by exact rn_inc_m1 _) (by exact rfl) ?_
        refine rn_goto 100 (by exact dc_Md_put 78 rfl) (by exact rfl) ?_
        exact rn_weak _ (by repeat (first | exact rn_le_0 | apply rn_le_s | apply rn_le_x)) (ih _ _ h5)
def F_Md_put (m : tM) (v0 : Int32) (v1 : Int64) : Option (Int32 × tM) :=
  if v0 < (1 : Int32) then (
    some ((0 : Int32), (M_put_code m (0 : Int32)))
  ) else (
    if (8 : Int32) < v0 then (
      some ((0 : Int32), (M_put_code m (0 : Int32)))
    ) else (
      if ((M_size (M_put_code m (0 : Int32))) + v0) ≤ (300 : Int32) then (
        Option.bind (F_Md_put_L36 v0 v1 rn_fu (1 : Int32) (0 : Int32)) fun y7 =>
        Option.bind (F_Md_put_L100 v1 y7 rn_fu (M_put_code m (0 : Int32)) (v0 - (1 : Int32))) fun m11 =>
        Option.bind (rn_bl y7) fun y12 =>
        some (y12, m11)
      ) else (
        some ((0 : Int32), (M_put_code m (0 : Int32)))
      )
    )
  )
set_option maxHeartbeats 4000000 in
set_option maxRecDepth 100000 in
theorem c_Md_put {Z : rn_Z} {g1 g2 : Nat} {x : tX} {d : tD} {c : tC} {u : tU} {t : tT} {a : tG} {b : tG} {m : tM} {o : tO} {E : List rn_C} {v0 : Int32} {v1 : Int64} {res : Int32} {mR : tM} (h : F_Md_put m v0 v1 = some (res, mR)) : Call Z M_Md_put [.ref 53, .int v0, .long v1] (emb g1 g2 x d c u t a b m o E) 0 0 (some (.int res)) (emb g1 g2 x d c u t a b mR o E) := by
  unfold F_Md_put at h
  refine rn_call (by decide) 3 (by exact Nat.le_of_ble_eq_true rfl) ?_
  show Rn Z M_Md_put 0 [some (.ref 53), some (.int v0), some (.long v1), none, none, none, none] [] (emb g1 g2 x d c u t a b m o E) 0 0 _
  refine rn_aload_n (by exact dc_Md_put 0 rfl) (by exact rfl) ?_
  refine rn_iconst (v := (0 : Int32)) (by exact dc_Md_put 1 rfl) (by decide) ?_
  refine rn_putf (w2 := (emb g1 g2 x d c u t a b (M_put_code m (0 : Int32)) o E)) fd_Md_77 (by exact dc_Md_put 2 rfl) (by exact rfl) (by exact rfl) (by exact Nat.le_of_ble_eq_true rfl) (by exact sm_code) ?_
  refine rn_iload_n (by exact dc_Md_put 3 rfl) (by exact rfl) ?_
  refine rn_iconst (v := (1 : Int32)) (by exact dc_Md_put 4 rfl) (by decide) ?_
  by_cases c1 : v0 < (1 : Int32)
  · replace h := rn_ifp c1 h
    refine rn_icmp_lt_t 28 (by exact dc_Md_put 5 rfl) (by exact rfl) c1 ?_
    refine rn_iconst (v := (0 : Int32)) (by exact dc_Md_put 15 rfl) (by decide) ?_
    cases h
    exact rn_zreturn (by exact dc_Md_put 16 rfl) (by exact rfl) (by first | exact Or.inl rfl | exact Or.inr rfl)
  · replace h := rn_ifn c1 h
    refine rn_icmp_lt_f 28 (by exact dc_Md_put 5 rfl) (by exact rfl) c1 ?_
    refine rn_iload_n (by exact dc_Md_put 6 rfl) (by exact rfl) ?_
    refine rn_bipush (v := (8 : Int32)) (by exact dc_Md_put 7 rfl) (by decide) ?_
    by_cases c2 : (8 : Int32) < v0
    · replace h := rn_ifp c2 h
      refine rn_icmp_gt_t 28 (by exact dc_Md_put 8 rfl) (by exact rfl) c2 ?_
      refine rn_iconst (v := (0 : Int32)) (by exact dc_Md_put 15 rfl) (by decide) ?_
      cases h
      exact rn_zreturn (by exact dc_Md_put 16 rfl) (by exact rfl) (by first | exact Or.inl rfl | exact Or.inr rfl)
    · replace h := rn_ifn c2 h
      refine rn_icmp_gt_f 28 (by exact dc_Md_put 8 rfl) (by exact rfl) c2 ?_
      refine rn_aload_n (by exact dc_Md_put 9 rfl) (by exact rfl) ?_
      refine rn_getf (v := .int (M_size (M_put_code m (0 : Int32)))) fd_Md_81 (by exact dc_Md_put 10 rfl) (by exact rfl) (by exact rfl) ?_
      refine rn_iload_n (by exact dc_Md_put 11 rfl) (by exact rfl) ?_
      refine rn_iadd (by exact dc_Md_put 12 rfl) ?_
      refine rn_sipush (v := (300 : Int32)) (by exact dc_Md_put 13 rfl) (by decide) ?_
      by_cases c3 : ((M_size (M_put_code m (0 : Int32))) + v0) ≤ (300 : Int32)
      · replace h := rn_ifp c3 h
        refine rn_icmp_le_t 30 (by exact dc_Md_put 14 rfl) (by exact rfl) c3 ?_
        refine rn_iconst (v := (1 : Int32)) (by exact dc_Md_put 17 rfl) (by decide) ?_
        refine rn_istore (ls' := [some (.ref 53), some (.int v0), some (.long v1), none, some (.int (1 : Int32)), none, none]) (by exact dc_Md_put 18 rfl) (by decide) (by exact rfl) ?_
        refine rn_iconst (v := (0 : Int32)) (by exact dc_Md_put 19 rfl) (by decide) ?_
        refine rn_istore (ls' := [some (.ref 53), some (.int v0), some (.long v1), none, some (.int (1 : Int32)), some (.int (0 : Int32)), none]) (by exact dc_Md_put 20 rfl) (by decide) (by exact rfl) ?_
        obtain ⟨y7, e4, h6⟩ := rn_bind h
        clear h
        have jx5 : Rn Z M_Md_put 95 [some (.ref 53), some (.int v0), some (.long v1), none, some (.int y7), none, none] [] (emb g1 g2 x d c u t a b (M_put_code m (0 : Int32)) o E) 0 0 (rn_Ret Z (some (.int res)) (emb g1 g2 x d c u t a b mR o E)) := by
          refine rn_iload_n (by exact dc_Md_put 50 rfl) (by exact rfl) ?_
          refine rn_iconst (v := (1 : Int32)) (by exact dc_Md_put 51 rfl) (by decide) ?_
          refine rn_isub (by exact dc_Md_put 52 rfl) ?_
          refine rn_istore (ls' := [some (.ref 53), some (.int v0), some (.long v1), none, some (.int y7), some (.int (v0 - (1 : Int32))), none]) (by exact dc_Md_put 53 rfl) (by decide) (by exact rfl) ?_
          obtain ⟨m11, e8, h10⟩ := rn_bind h6
          clear h6
          have jx9 : Rn Z M_Md_put 147 [none, none, none, none, some (.int y7), none, none] [] (emb g1 g2 x d c u t a b m11 o E) 0 0 (rn_Ret Z (some (.int res)) (emb g1 g2 x d c u t a b mR o E)) := by
            refine rn_iload (by exact dc_Md_put 79 rfl) (by exact rfl) ?_
            obtain ⟨y12, e13, h15⟩ := rn_bind h10
            clear h10
            obtain ⟨rfl, hb14⟩ := rn_bl_some e13
            cases h15
            exact rn_zreturn (by exact dc_Md_put 80 rfl) (by exact rfl) hb14
          exact rn_weak _ (by repeat (first | exact rn_le_0 | apply rn_le_s | apply rn_le_x)) (p_Md_put_L100 jx9 _ _ _ e8)
        exact rn_weak _ (by repeat (first | exact rn_le_0 | apply rn_le_s | apply rn_le_x)) (p_Md_put_L36 jx5 _ _ _ e4)
      · replace h := rn_ifn c3 h
        refine rn_icmp_le_f 30 (by exact dc_Md_put 14 rfl) (by exact rfl) c3 ?_
        refine rn_iconst (v := (0 : Int32)) (by exact dc_Md_put 15 rfl) (by decide) ?_
        cases h
        exact rn_zreturn (by exact dc_Md_put 16 rfl) (by exact rfl) (by first | exact Or.inl rfl | exact Or.inr rfl)
def F_Md_scrap (m : tM)  : Option tM :=
  some (M_put_size (M_put_code m (0 : Int32)) (0 : Int32))
set_option maxHeartbeats 4000000 in
set_option maxRecDepth 100000 in
theorem c_Md_scrap {Z : rn_Z} {g1 g2 : Nat} {x : tX} {d : tD} {c : tC} {u : tU} {t : tT} {a : tG} {b : tG} {m : tM} {o : tO} {E : List rn_C}  {mR : tM} (h : F_Md_scrap m  = some mR) : Call Z M_Md_scrap [.ref 53] (emb g1 g2 x d c u t a b m o E) 0 0 none (emb g1 g2 x d c u t a b mR o E) := by
  unfold F_Md_scrap at h
  refine rn_call (by decide) 0 (by exact Nat.le_of_ble_eq_true rfl) ?_
  show Rn Z M_Md_scrap 0 [some (.ref 53)] [] (emb g1 g2 x d c u t a b m o E) 0 0 _
  refine rn_aload_n (by exact dc_Md_scrap 0 rfl) (by exact rfl) ?_
  refine rn_iconst (v := (0 : Int32)) (by exact dc_Md_scrap 1 rfl) (by decide) ?_
  refine rn_putf (w2 := (emb g1 g2 x d c u t a b (M_put_code m (0 : Int32)) o E)) fd_Md_77 (by exact dc_Md_scrap 2 rfl) (by exact rfl) (by exact rfl) (by exact Nat.le_of_ble_eq_true rfl) (by exact sm_code) ?_
  refine rn_aload_n (by exact dc_Md_scrap 3 rfl) (by exact rfl) ?_
  refine rn_iconst (v := (0 : Int32)) (by exact dc_Md_scrap 4 rfl) (by decide) ?_
  refine rn_putf (w2 := (emb g1 g2 x d c u t a b (M_put_size (M_put_code m (0 : Int32)) (0 : Int32)) o E)) fd_Md_81 (by exact dc_Md_scrap 5 rfl) (by exact rfl) (by exact rfl) (by exact Nat.le_of_ble_eq_true rfl) (by exact sm_size) ?_
  cases h
  exact rn_return (by exact dc_Md_scrap 6 rfl) (by exact rfl)
def F_Md_next (m : tM) (v0 : Int32) : Option (Int32 × tM) :=
  Option.bind (
    if (M_end m) ≤ (M_at m) then (
      some (0 : Int32)
    ) else (
      Option.bind (aG (M_src m) 300 (M_at m)) fun x6 =>
      if ¬ x6 = v0 then (
        some (0 : Int32)
      ) else (
        some (1 : Int32)
      )
    )
   : Option Int32) fun y1 =>
  Option.bind (
    if y1 = 0 then (
      some (M_at m : Int32)
    ) else (
      some ((M_at m) + (1 : Int32))
    )
   : Option Int32) fun y10 =>
  Option.bind (rn_bl y1) fun y15 =>
  some (y15, (M_put_at m y10))
set_option maxHeartbeats 4000000 in
set_option maxRecDepth 100000 in
theorem c_Md_next {Z : rn_Z} {g1 g2 : Nat} {x : tX} {d : tD} {c : tC} {u : tU} {t : tT} {a : tG} {b : tG} {m : tM} {o : tO} {E : List rn_C} {v0 : Int32} {res : Int32} {mR : tM} (h : F_Md_next m v0 = some (res, mR)) : Call Z M_Md_next [.ref 53, .int v0] (emb g1 g2 x d c u t a b m o E) 0 0 (some (.int res)) (emb g1 g2 x d c u t a b mR o E) := by
  unfold F_Md_next at h
  refine rn_call (by decide) 1 (by exact Nat.le_of_ble_eq_true rfl) ?_
  show Rn Z M_Md_next 0 [some (.ref 53), some (.int v0), none] [] (emb g1 g2 x d c u t a b m o E) 0 0 _
  refine rn_aload_n (by exact dc_Md_next 0 rfl) (by exact rfl) ?_
  refine rn_getf (v := .int (M_at m)) fd_Md_86 (by exact dc_Md_next 1 rfl) (by exact rfl) (by exact rfl) ?_
  refine rn_aload_n (by exact dc_Md_next 2 rfl) (by exact rfl) ?_
  refine rn_getf (v := .int (M_end m)) fd_Md_89 (by exact dc_Md_next 3 rfl) (by exact rfl) (by exact rfl) ?_
  obtain ⟨y1, e2, h4⟩ := rn_bind h
  clear h
  have jq3 : Rn Z M_Md_next 29 [some (.ref 53), none, none] [.int y1] (emb g1 g2 x d c u t a b m o E) 0 0 (rn_Ret Z (some (.int res)) (emb g1 g2 x d c u t a b mR o E)) := by
    refine rn_istore_n (ls' := [some (.ref 53), none, some (.int y1)]) (by exact dc_Md_next 15 rfl) (by decide) (by exact rfl) ?_
    refine rn_aload_n (by exact dc_Md_next 16 rfl) (by exact rfl) ?_
    refine rn_iload_n (by exact dc_Md_next 17 rfl) (by exact rfl) ?_
    obtain ⟨y10, e11, h13⟩ := rn_bind h4
    clear h4
    have jq12 : Rn Z M_Md_next 48 [none, none, some (.int y1)] [.int y10, .ref 53] (emb g1 g2 x d c u t a b m o E) 0 0 (rn_Ret Z (some (.int res)) (emb g1 g2 x d c u t a b mR o E)) := by
      refine rn_putf (w2 := (emb g1 g2 x d c u t a b (M_put_at m y10) o E)) fd_Md_86 (by exact dc_Md_next 26 rfl) (by exact rfl) (by exact rfl) (by exact Nat.le_of_ble_eq_true rfl) (by exact sm_at) ?_
      refine rn_iload_n (by exact dc_Md_next 27 rfl) (by exact rfl) ?_
      obtain ⟨y15, e16, h18⟩ := rn_bind h13
      clear h13
      obtain ⟨rfl, hb17⟩ := rn_bl_some e16
      cases h18
      exact rn_zreturn (by exact dc_Md_next 28 rfl) (by exact rfl) hb17
    by_cases c14 : y1 = 0
    · replace e11 := rn_ifp c14 e11
      refine rn_if_eq_t 44 (by exact dc_Md_next 18 rfl) (by exact rfl) c14 ?_
      refine rn_aload_n (by exact dc_Md_next 24 rfl) (by exact rfl) ?_
      refine rn_getf (v := .int (M_at m)) fd_Md_86 (by exact dc_Md_next 25 rfl) (by exact rfl) (by exact rfl) ?_
      cases e11
      exact rn_weak _ (by repeat (first | exact rn_le_0 | apply rn_le_s | apply rn_le_x)) jq12
    · replace e11 := rn_ifn c14 e11
      refine rn_if_eq_f 44 (by exact dc_Md_next 18 rfl) (by exact rfl) c14 ?_
      refine rn_aload_n (by exact dc_Md_next 19 rfl) (by exact rfl) ?_
      refine rn_getf (v := .int (M_at m)) fd_Md_86 (by exact dc_Md_next 20 rfl) (by exact rfl) (by exact rfl) ?_
      refine rn_iconst (v := (1 : Int32)) (by exact dc_Md_next 21 rfl) (by decide) ?_
      refine rn_iadd (by exact dc_Md_next 22 rfl) ?_
      refine rn_goto 48 (by exact dc_Md_next 23 rfl) (by exact rfl) ?_
      cases e11
      exact rn_weak _ (by repeat (first | exact rn_le_0 | apply rn_le_s | apply rn_le_x)) jq12
  by_cases c5 : (M_end m) ≤ (M_at m)
  · replace e2 := rn_ifp c5 e2
    refine rn_icmp_ge_t 28 (by exact dc_Md_next 4 rfl) (by exact rfl) c5 ?_
    refine rn_iconst (v := (0 : Int32)) (by exact dc_Md_next 14 rfl) (by decide) ?_
    cases e2
    exact rn_weak _ (by repeat (first | exact rn_le_0 | apply rn_le_s | apply rn_le_x)) jq3
  · replace e2 := rn_ifn c5 e2
    refine rn_icmp_ge_f 28 (by exact dc_Md_next 4 rfl) (by exact rfl) c5 ?_
    refine rn_aload_n (by exact dc_Md_next 5 rfl) (by exact rfl) ?_
    refine rn_getf (v := .ref 55) fd_Md_13 (by exact dc_Md_next 6 rfl) (by exact rfl) (by exact rfl) ?_
    refine rn_aload_n (by exact dc_Md_next 7 rfl) (by exact rfl) ?_
    refine rn_getf (v := .int (M_at m)) fd_Md_86 (by exact dc_Md_next 8 rfl) (by exact rfl) (by exact rfl) ?_
    obtain ⟨x6, e7, h8⟩ := rn_bind e2
    clear e2
    refine rn_iaload (by exact dc_Md_next 9 rfl) (by exact rfl) e7 ?_
    refine rn_iload_n (by exact dc_Md_next 10 rfl) (by exact rfl) ?_
    by_cases c9 : ¬ x6 = v0
    · replace h8 := rn_ifp c9 h8
      refine rn_icmp_ne_t 28 (by exact dc_Md_next 11 rfl) (by exact rfl) c9 ?_
      refine rn_iconst (v := (0 : Int32)) (by exact dc_Md_next 14 rfl) (by decide) ?_
      cases h8
      exact rn_weak _ (by repeat (first | exact rn_le_0 | apply rn_le_s | apply rn_le_x)) jq3
    · replace h8 := rn_ifn c9 h8
      refine rn_icmp_ne_f 28 (by exact dc_Md_next 11 rfl) (by exact rfl) (Classical.not_not.mp c9) ?_
      refine rn_iconst (v := (1 : Int32)) (by exact dc_Md_next 12 rfl) (by decide) ?_
      refine rn_goto 29 (by exact dc_Md_next 13 rfl) (by exact rfl) ?_
      cases h8
      exact rn_weak _ (by repeat (first | exact rn_le_0 | apply rn_le_s | apply rn_le_x)) jq3
def F_Md_isCapital (v0 : Int32) : Option Int32 :=
  Option.bind (
    if v0 < (65 : Int32) then (
      some (0 : Int32)
    ) else (
      if (90 : Int32) < v0 then (
        some (0 : Int32)
      ) else (
        some (1 : Int32)
      )
    )
   : Option Int32) fun y1 =>
  Option.bind (rn_bl y1) fun y7 =>
  some y7
set_option maxHeartbeats 4000000 in
set_option maxRecDepth 100000 in
theorem c_Md_isCapital {Z : rn_Z} {g1 g2 : Nat} {x : tX} {d : tD} {c : tC} {u : tU} {t : tT} {a : tG} {b : tG} {m : tM} {o : tO} {E : List rn_C} {v0 : Int32} {res : Int32} (h : F_Md_isCapital  v0 = some res) : Call Z M_Md_isCapital [.int v0] (emb g1 g2 x d c u t a b m o E) 0 0 (some (.int res)) (emb g1 g2 x d c u t a b m o E) := by
  unfold F_Md_isCapital at h
  refine rn_call (by decide) 0 (by exact Nat.le_of_ble_eq_true rfl) ?_
  show Rn Z M_Md_isCapital 0 [some (.int v0)] [] (emb g1 g2 x d c u t a b m o E) 0 0 _
  refine rn_iload_n (by exact dc_Md_isCapital 0 rfl) (by exact rfl) ?_
  refine rn_bipush (v := (65 : Int32)) (by exact dc_Md_isCapital 1 rfl) (by decide) ?_
  obtain ⟨y1, e2, h4⟩ := rn_bind h
  clear h
  have jq3 : Rn Z M_Md_isCapital 17 [none] [.int y1] (emb g1 g2 x d c u t a b m o E) 0 0 (rn_Ret Z (some (.int res)) (emb g1 g2 x d c u t a b m o E)) := by
    obtain ⟨y7, e8, h10⟩ := rn_bind h4
    clear h4
    obtain ⟨rfl, hb9⟩ := rn_bl_some e8
    cases h10
    exact rn_zreturn (by exact dc_Md_isCapital 9 rfl) (by exact rfl) hb9
  by_cases c5 : v0 < (65 : Int32)
  · replace e2 := rn_ifp c5 e2
    refine rn_icmp_lt_t 16 (by exact dc_Md_isCapital 2 rfl) (by exact rfl) c5 ?_
    refine rn_iconst (v := (0 : Int32)) (by exact dc_Md_isCapital 8 rfl) (by decide) ?_
    cases e2
    exact rn_weak _ (by repeat (first | exact rn_le_0 | apply rn_le_s | apply rn_le_x)) jq3
  · replace e2 := rn_ifn c5 e2
    refine rn_icmp_lt_f 16 (by exact dc_Md_isCapital 2 rfl) (by exact rfl) c5 ?_
    refine rn_iload_n (by exact dc_Md_isCapital 3 rfl) (by exact rfl) ?_
    refine rn_bipush (v := (90 : Int32)) (by exact dc_Md_isCapital 4 rfl) (by decide) ?_
    by_cases c6 : (90 : Int32) < v0
    · replace e2 := rn_ifp c6 e2
      refine rn_icmp_gt_t 16 (by exact dc_Md_isCapital 5 rfl) (by exact rfl) c6 ?_
      refine rn_iconst (v := (0 : Int32)) (by exact dc_Md_isCapital 8 rfl) (by decide) ?_
      cases e2
      exact rn_weak _ (by repeat (first | exact rn_le_0 | apply rn_le_s | apply rn_le_x)) jq3
    · replace e2 := rn_ifn c6 e2
      refine rn_icmp_gt_f 16 (by exact dc_Md_isCapital 5 rfl) (by exact rfl) c6 ?_
      refine rn_iconst (v := (1 : Int32)) (by exact dc_Md_isCapital 6 rfl) (by decide) ?_
      refine rn_goto 17 (by exact dc_Md_isCapital 7 rfl) (by exact rfl) ?_
      cases e2
      exact rn_weak _ (by repeat (first | exact rn_le_0 | apply rn_le_s | apply rn_le_x)) jq3
def F_Md_isSmall (v0 : Int32) : Option Int32 :=
  Option.bind (
    if v0 < (97 : Int32) then (
      some (0 : Int32)
    ) else (
      if (122 : Int32) < v0 then (
        some (0 : Int32)
      ) else (
        some (1 : Int32)
      )
    )
   : Option Int32) fun y1 =>
  Option.bind (rn_bl y1) fun y7 =>
  some y7
set_option maxHeartbeats 4000000 in
set_option maxRecDepth 100000 in
theorem c_Md_isSmall {Z : rn_Z} {g1 g2 : Nat} {x : tX} {d : tD} {c : tC} {u : tU} {t : tT} {a : tG} {b : tG} {m : tM} {o : tO} {E : List rn_C} {v0 : Int32} {res : Int32} (h : F_Md_isSmall  v0 = some res) : Call Z M_Md_isSmall [.int v0] (emb g1 g2 x d c u t a b m o E) 0 0 (some (.int res)) (emb g1 g2 x d c u t a b m o E) := by
  unfold F_Md_isSmall at h
  refine rn_call (by decide) 0 (by exact Nat.le_of_ble_eq_true rfl) ?_
  show Rn Z M_Md_isSmall 0 [some (.int v0)] [] (emb g1 g2 x d c u t a b m o E) 0 0 _
  refine rn_iload_n (by exact dc_Md_isSmall 0 rfl) (by exact rfl) ?_
  refine rn_bipush (v := (97 : Int32)) (by exact dc_Md_isSmall 1 rfl) (by decide) ?_
  obtain ⟨y1, e2, h4⟩ := rn_bind h
  clear h
  have jq3 : Rn Z M_Md_isSmall 17 [none] [.int y1] (emb g1 g2 x d c u t a b m o E) 0 0 (rn_Ret Z (some (.int res)) (emb g1 g2 x d c u t a b m o E)) := by
    obtain ⟨y7, e8, h10⟩ := rn_bind h4
    clear h4
    obtain ⟨rfl, hb9⟩ := rn_bl_some e8
    cases h10
    exact rn_zreturn (by exact dc_Md_isSmall 9 rfl) (by exact rfl) hb9
  by_cases c5 : v0 < (97 : Int32)
  · replace e2 := rn_ifp c5 e2
    refine rn_icmp_lt_t 16 (by exact dc_Md_isSmall 2 rfl) (by exact rfl) c5 ?_
    refine rn_iconst (v := (0 : Int32)) (by exact dc_Md_isSmall 8 rfl) (by decide) ?_
    cases e2
    exact rn_weak _ (by repeat (first | exact rn_le_0 | apply rn_le_s | apply rn_le_x)) jq3
  · replace e2 := rn_ifn c5 e2
    refine rn_icmp_lt_f 16 (by exact dc_Md_isSmall 2 rfl) (by exact rfl) c5 ?_
    refine rn_iload_n (by exact dc_Md_isSmall 3 rfl) (by exact rfl) ?_
    refine rn_bipush (v := (122 : Int32)) (by exact dc_Md_isSmall 4 rfl) (by decide) ?_
    by_cases c6 : (122 : Int32) < v0
    · replace e2 := rn_ifp c6 e2
      refine rn_icmp_gt_t 16 (by exact dc_Md_isSmall 5 rfl) (by exact rfl) c6 ?_
      refine rn_iconst (v := (0 : Int32)) (by exact dc_Md_isSmall 8 rfl) (by decide) ?_
      cases e2
      exact rn_weak _ (by repeat (first | exact rn_le_0 | apply rn_le_s | apply rn_le_x)) jq3
    · replace e2 := rn_ifn c6 e2
      refine rn_icmp_gt_f 16 (by exact dc_Md_isSmall 5 rfl) (by exact rfl) c6 ?_
      refine rn_iconst (v := (1 : Int32)) (by exact dc_Md_isSmall 6 rfl) (by decide) ?_
      refine rn_goto 17 (by exact dc_Md_isSmall 7 rfl) (by exact rfl) ?_
      cases e2
      exact rn_weak _ (by repeat (first | exact rn_le_0 | apply rn_le_s | apply rn_le_x)) jq3
def F_Md_isFigure (m : tM)  : Option Int32 :=
  Option.bind (
    if (M_end m) ≤ (M_at m) then (
      some (0 : Int32)
    ) else (
      Option.bind (aG (M_src m) 300 (M_at m)) fun x6 =>
      if x6 < (48 : Int32) then (
        some (0 : Int32)
      ) else (
        Option.bind (aG (M_src m) 300 (M_at m)) fun x10 =>
        if (57 : Int32) < x10 then (
          some (0 : Int32)
        ) else (
          some (1 : Int32)
        )
      )
    )
   : Option Int32) fun y1 =>
  Option.bind (rn_bl y1) fun y14 =>
  some y14
set_option maxHeartbeats 4000000 in
set_option maxRecDepth 100000 in
theorem c_Md_isFigure {Z : rn_Z} {g1 g2 : Nat} {x : tX} {d : tD} {c : tC} {u : tU} {t : tT} {a : tG} {b : tG} {m : tM} {o : tO} {E : List rn_C}  {res : Int32} (h : F_Md_isFigure m  = some res) : Call Z M_Md_isFigure [.ref 53] (emb g1 g2 x d c u t a b m o E) 0 0 (some (.int res)) (emb g1 g2 x d c u t a b m o E) := by
  unfold F_Md_isFigure at h
  refine rn_call (by decide) 0 (by exact Nat.le_of_ble_eq_true rfl) ?_
  show Rn Z M_Md_isFigure 0 [some (.ref 53)] [] (emb g1 g2 x d c u t a b m o E) 0 0 _
  refine rn_aload_n (by exact dc_Md_isFigure 0 rfl) (by exact rfl) ?_
  refine rn_getf (v := .int (M_at m)) fd_Md_86 (by exact dc_Md_isFigure 1 rfl) (by exact rfl) (by exact rfl) ?_
  refine rn_aload_n (by exact dc_Md_isFigure 2 rfl) (by exact rfl) ?_
  refine rn_getf (v := .int (M_end m)) fd_Md_89 (by exact dc_Md_isFigure 3 rfl) (by exact rfl) (by exact rfl) ?_
  obtain ⟨y1, e2, h4⟩ := rn_bind h
  clear h
  have jq3 : Rn Z M_Md_isFigure 44 [none] [.int y1] (emb g1 g2 x d c u t a b m o E) 0 0 (rn_Ret Z (some (.int res)) (emb g1 g2 x d c u t a b m o E)) := by
    obtain ⟨y14, e15, h17⟩ := rn_bind h4
    clear h4
    obtain ⟨rfl, hb16⟩ := rn_bl_some e15
    cases h17
    exact rn_zreturn (by exact dc_Md_isFigure 22 rfl) (by exact rfl) hb16
  by_cases c5 : (M_end m) ≤ (M_at m)
  · replace e2 := rn_ifp c5 e2
    refine rn_icmp_ge_t 43 (by exact dc_Md_isFigure 4 rfl) (by exact rfl) c5 ?_
    refine rn_iconst (v := (0 : Int32)) (by exact dc_Md_isFigure 21 rfl) (by decide) ?_
    cases e2
    exact rn_weak _ (by repeat (first | exact rn_le_0 | apply rn_le_s | apply rn_le_x)) jq3
  · replace e2 := rn_ifn c5 e2
    refine rn_icmp_ge_f 43 (by exact dc_Md_isFigure 4 rfl) (by exact rfl) c5 ?_
    refine rn_aload_n (by exact dc_Md_isFigure 5 rfl) (by exact rfl) ?_
    refine rn_getf (v := .ref 55) fd_Md_13 (by exact dc_Md_isFigure 6 rfl) (by exact rfl) (by exact rfl) ?_
    refine rn_aload_n (by exact dc_Md_isFigure 7 rfl) (by exact rfl) ?_
    refine rn_getf (v := .int (M_at m)) fd_Md_86 (by exact dc_Md_isFigure 8 rfl) (by exact rfl) (by exact rfl) ?_
    obtain ⟨x6, e7, h8⟩ := rn_bind e2
    clear e2
    refine rn_iaload (by exact dc_Md_isFigure 9 rfl) (by exact rfl) e7 ?_
    refine rn_bipush (v := (48 : Int32)) (by exact dc_Md_isFigure 10 rfl) (by decide) ?_
    by_cases c9 : x6 < (48 : Int32)
    · replace h8 := rn_ifp c9 h8
      refine rn_icmp_lt_t 43 (by exact dc_Md_isFigure 11 rfl) (by exact rfl) c9 ?_
      refine rn_iconst (v := (0 : Int32)) (by exact dc_Md_isFigure 21 rfl) (by decide) ?_
      cases h8
      exact rn_weak _ (by repeat (first | exact rn_le_0 | apply rn_le_s | apply rn_le_x)) jq3
    · replace h8 := rn_ifn c9 h8
      refine rn_icmp_lt_f 43 (by exact dc_Md_isFigure 11 rfl) (by exact rfl) c9 ?_
      refine rn_aload_n (by exact dc_Md_isFigure 12 rfl) (by exact rfl) ?_
      refine rn_getf (v := .ref 55) fd_Md_13 (by exact dc_Md_isFigure 13 rfl) (by exact rfl) (by exact rfl) ?_
      refine rn_aload_n (by exact dc_Md_isFigure 14 rfl) (by exact rfl) ?_
      refine rn_getf (v := .int (M_at m)) fd_Md_86 (by exact dc_Md_isFigure 15 rfl) (by exact rfl) (by exact rfl) ?_
      obtain ⟨x10, e11, h12⟩ := rn_bind h8
      clear h8
      refine rn_iaload (by exact dc_Md_isFigure 16 rfl) (by exact rfl) e11 ?_
      refine rn_bipush (v := (57 : Int32)) (by exact dc_Md_isFigure 17 rfl) (by decide) ?_
      by_cases c13 : (57 : Int32) < x10
      · replace h12 := rn_ifp c13 h12
        refine rn_icmp_gt_t 43 (by exact dc_Md_isFigure 18 rfl) (by exact rfl) c13 ?_
        refine rn_iconst (v := (0 : Int32)) (by exact dc_Md_isFigure 21 rfl) (by decide) ?_
        cases h12
        exact rn_weak _ (by repeat (first | exact rn_le_0 | apply rn_le_s | apply rn_le_x)) jq3
      · replace h12 := rn_ifn c13 h12
        refine rn_icmp_gt_f 43 (by exact dc_Md_isFigure 18 rfl) (by exact rfl) c13 ?_
        refine rn_iconst (v := (1 : Int32)) (by exact dc_Md_isFigure 19 rfl) (by decide) ?_
        refine rn_goto 44 (by exact dc_Md_isFigure 20 rfl) (by exact rfl) ?_
        cases h12
        exact rn_weak _ (by repeat (first | exact rn_le_0 | apply rn_le_s | apply rn_le_x)) jq3
end
section
def F_Md_number_L10 (l1 : Int32) : Nat → tM → Option tM
  | 0, _ => none
  | n + 1, m =>
    Option.bind (F_Md_isFigure m ) fun x2 =>
    if x2 = 0 then (
      some m
    ) else (
      if (l1 + (3 : Int32)) ≤ (M_at m) then (
        some m
      ) else (
        Option.bind (aG (M_src m) 300 (M_at m)) fun x6 =>
        F_Md_number_L10 l1 n (M_put_at (M_put_value m ((((10 : Int32) * (M_value m)) + x6) - (48 : Int32))) ((M_at (M_put_value m ((((10 : Int32) * (M_value m)) + x6) - (48 : Int32)))) + (1 : Int32)))
      )
    )
set_option maxHeartbeats 4000000 in
set_option maxRecDepth 100000 in
theorem p_Md_number_L10 {Z : rn_Z} {g1 g2 : Nat} {x : tX} {d : tD} {c : tC} {u : tU} {t : tT} {a : tG} {b : tG}  {o : tO} {E : List rn_C}  {l1 : Int32} {K : rn_K} {mz : tM} (hx : Rn Z M_Md_number 64 [some (.ref 53), some (.int l1)] [] (emb g1 g2 x d c u t a b mz o E) 0 0 K) (n : Nat) : ∀ (m : tM), F_Md_number_L10 l1 n m = some mz → Rn Z M_Md_number 10 [some (.ref 53), some (.int l1)] [] (emb g1 g2 x d c u t a b m o E) 0 0 K := by
  induction n with
  | zero =>
    intro m h
    rw [F_Md_number_L10] at h
    cases h
  | succ n ih =>
    intro m h
    rw [F_Md_number_L10] at h
    refine rn_aload_n (by exact dc_Md_number 6 rfl) (by exact rfl) ?_
    obtain ⟨x2, e1, h3⟩ := rn_bind h
    clear h
    refine rn_invV0 (by exact c_Md_isFigure e1) iv_Md_95 (by exact ⟨Nat.le_of_ble_eq_true rfl, Nat.le_of_ble_eq_true rfl⟩) (by exact dc_Md_number 7 rfl) (by exact rfl) (by exact rfl) (by exact rfl) (by exact Nat.le_of_ble_eq_true rfl) ?_
    show Rn _ _ 14 [some (.ref 53), some (.int l1)] [.int x2] (emb g1 g2 x d c u t a b m o E) _ _ _
    by_cases c4 : x2 = 0
    · replace h3 := rn_ifp c4 h3
      refine rn_if_eq_t 64 (by exact dc_Md_number 8 rfl) (by exact rfl) c4 ?_
      cases h3
      exact rn_weak _ (by repeat (first | exact rn_le_0 | apply rn_le_s | apply rn_le_x)) hx
    · replace h3 := rn_ifn c4 h3
      refine rn_if_eq_f 64 (by exact dc_Md_number 8 rfl) (by exact rfl) c4 ?_
      refine rn_aload_n (by exact dc_Md_number 9 rfl) (by exact rfl) ?_
      refine rn_getf (v := .int (M_at m)) fd_Md_86 (by exact dc_Md_number 10 rfl) (by exact rfl) (by exact rfl) ?_
      refine rn_iload_n (by exact dc_Md_number 11 rfl) (by exact rfl) ?_
      refine rn_iconst (v := (3 : Int32)) (by exact dc_Md_number 12 rfl) (by decide) ?_
      refine rn_iadd (by exact dc_Md_number 13 rfl) ?_
      by_cases c5 : (l1 + (3 : Int32)) ≤ (M_at m)
      · replace h3 := rn_ifp c5 h3
        refine rn_icmp_ge_t 64 (by exact dc_Md_number 14 rfl) (by exact rfl) c5 ?_
        cases h3
        exact rn_weak _ (by repeat (first | exact rn_le_0 | apply rn_le_s | apply rn_le_x)) hx
      · replace h3 := rn_ifn c5 h3
        refine rn_icmp_ge_f 64 (by exact dc_Md_number 14 rfl) (by exact rfl) c5 ?_
        refine rn_aload_n (by exact dc_Md_number 15 rfl) (by exact rfl) ?_
        refine rn_bipush (v := (10 : Int32)) (by exact dc_Md_number 16 rfl) (by decide) ?_
        refine rn_aload_n (by exact dc_Md_number 17 rfl) (by exact rfl) ?_
        refine rn_getf (v := .int (M_value m)) fd_Md_92 (by exact dc_Md_number 18 rfl) (by exact rfl) (by exact rfl) ?_
        refine rn_imul (by exact dc_Md_number 19 rfl) ?_
        refine rn_aload_n (by exact dc_Md_number 20 rfl) (by exact rfl) ?_
        refine rn_getf (v := .ref 55) fd_Md_13 (by exact dc_Md_number 21 rfl) (by exact rfl) (by exact rfl) ?_
        refine rn_aload_n (by exact dc_Md_number 22 rfl) (by exact rfl) ?_
        refine rn_getf (v := .int (M_at m)) fd_Md_86 (by exact dc_Md_number 23 rfl) (by exact rfl) (by exact rfl) ?_
        obtain ⟨x6, e7, h8⟩ := rn_bind h3
        clear h3
        refine rn_iaload (by exact dc_Md_number 24 rfl) (by exact rfl) e7 ?_
        refine rn_iadd (by exact dc_Md_number 25 rfl) ?_
        refine rn_bipush (v := (48 : Int32)) (by exact dc_Md_number 26 rfl) (by decide) ?_
        refine rn_isub (by exact dc_Md_number 27 rfl) ?_
        refine rn_putf (w2 := (emb g1 g2 x d c u t a b (M_put_value m ((((10 : Int32) * (M_value m)) + x6) - (48 : Int32))) o E)) fd_Md_92 (by exact dc_Md_number 28 rfl) (by exact rfl) (by exact rfl) (by exact Nat.le_of_ble_eq_true rfl) (by exact sm_value) ?_
        refine rn_aload_n (by exact dc_Md_number 29 rfl) (by exact rfl) ?_
        refine rn_dup (by exact dc_Md_number 30 rfl) (by exact rfl) ?_
        refine rn_getf (v := .int (M_at (M_put_value m ((((10 : Int32) * (M_value m)) + x6) - (48 : Int32))))) fd_Md_86 (by exact dc_Md_number 31 rfl) (by exact rfl) (by exact rfl) ?_
        refine rn_iconst (v := (1 : Int32)) (by exact dc_Md_number 32 rfl) (by decide) ?_
        refine rn_iadd (by exact dc_Md_number 33 rfl) ?_
        refine rn_putf (w2 := (emb g1 g2 x d c u t a b (M_put_at (M_put_value m ((((10 : Int32) * (M_value m)) + x6) - (48 : Int32))) ((M_at (M_put_value m ((((10 : Int32) * (M_value m)) + x6) - (48 : Int32)))) + (1 : Int32))) o E)) fd_Md_86 (by exact dc_Md_number 34 rfl) (by exact rfl) (by exact rfl) (by exact Nat.le_of_ble_eq_true rfl) (by exact sm_at) ?_
        refine rn_goto 10 (by exact dc_Md_number 35 rfl) (by exact rfl) ?_
        exact rn_weak _ (by repeat (first | exact rn_le_0 | apply rn_le_s | apply rn_le_x)) (ih _ h8)
def F_Md_number (m : tM)  : Option (Int32 × tM) :=
  Option.bind (F_Md_number_L10 (M_at m) rn_fu (M_put_value m (0 : Int32))) fun m4 =>
  Option.bind (
    if (M_at m4) ≤ (M_at m) then (
      some (0 : Int32)
    ) else (
      Option.bind (F_Md_isFigure m4 ) fun x11 =>
      if ¬ x11 = 0 then (
        some (0 : Int32)
      ) else (
        some (1 : Int32)
      )
    )
   : Option Int32) fun y5 =>
  Option.bind (rn_bl y5) fun y14 =>
  some (y14, m4)
set_option maxHeartbeats 4000000 in
set_option maxRecDepth 100000 in
theorem c_Md_number {Z : rn_Z} {g1 g2 : Nat} {x : tX} {d : tD} {c : tC} {u : tU} {t : tT} {a : tG} {b : tG} {m : tM} {o : tO} {E : List rn_C}  {res : Int32} {mR : tM} (h : F_Md_number m  = some (res, mR)) : Call Z M_Md_number [.ref 53] (emb g1 g2 x d c u t a b m o E) 0 0 (some (.int res)) (emb g1 g2 x d c u t a b mR o E) := by
  unfold F_Md_number at h
  refine rn_call (by decide) 1 (by exact Nat.le_of_ble_eq_true rfl) ?_
  show Rn Z M_Md_number 0 [some (.ref 53), none] [] (emb g1 g2 x d c u t a b m o E) 0 0 _
  refine rn_aload_n (by exact dc_Md_number 0 rfl) (by exact rfl) ?_
  refine rn_getf (v := .int (M_at m)) fd_Md_86 (by exact dc_Md_number 1 rfl) (by exact rfl) (by exact rfl) ?_
  refine rn_istore_n (ls' := [some (.ref 53), some (.int (M_at m))]) (by exact dc_Md_number 2 rfl) (by decide) (by exact rfl) ?_
  refine rn_aload_n (by exact dc_Md_number 3 rfl) (by exact rfl) ?_
  refine rn_iconst (v := (0 : Int32)) (by exact dc_Md_number 4 rfl) (by decide) ?_
  refine rn_putf (w2 := (emb g1 g2 x d c u t a b (M_put_value m (0 : Int32)) o E)) fd_Md_92 (by exact dc_Md_number 5 rfl) (by exact rfl) (by exact rfl) (by exact Nat.le_of_ble_eq_true rfl) (by exact sm_value) ?_
  obtain ⟨m4, e1, h3⟩ := rn_bind h
  clear h
  have jx2 : Rn Z M_Md_number 64 [some (.ref 53), some (.int (M_at m))] [] (emb g1 g2 x d c u t a b m4 o E) 0 0 (rn_Ret Z (some (.int res)) (emb g1 g2 x d c u t a b mR o E)) := by
    refine rn_aload_n (by exact dc_Md_number 36 rfl) (by exact rfl) ?_
    refine rn_getf (v := .int (M_at m4)) fd_Md_86 (by exact dc_Md_number 37 rfl) (by exact rfl) (by exact rfl) ?_
    refine rn_iload_n (by exact dc_Md_number 38 rfl) (by exact rfl) ?_
    obtain ⟨y5, e6, h8⟩ := rn_bind h3
    clear h3
    have jq7 : Rn Z M_Md_number 84 [none, none] [.int y5] (emb g1 g2 x d c u t a b m4 o E) 0 0 (rn_Ret Z (some (.int res)) (emb g1 g2 x d c u t a b mR o E)) := by
      obtain ⟨y14, e15, h17⟩ := rn_bind h8
      clear h8
      obtain ⟨rfl, hb16⟩ := rn_bl_some e15
      cases h17
      exact rn_zreturn (by exact dc_Md_number 46 rfl) (by exact rfl) hb16
    by_cases c9 : (M_at m4) ≤ (M_at m)
    · replace e6 := rn_ifp c9 e6
      refine rn_icmp_le_t 83 (by exact dc_Md_number 39 rfl) (by exact rfl) c9 ?_
      refine rn_iconst (v := (0 : Int32)) (by exact dc_Md_number 45 rfl) (by decide) ?_
      cases e6
      exact rn_weak _ (by repeat (first | exact rn_le_0 | apply rn_le_s | apply rn_le_x)) jq7
    · replace e6 := rn_ifn c9 e6
      refine rn_icmp_le_f 83 (by exact dc_Md_number 39 rfl) (by exact rfl) c9 ?_
      refine rn_aload_n (by exact dc_Md_number 40 rfl) (by exact rfl) ?_
      obtain ⟨x11, e10, h12⟩ := rn_bind e6
      clear e6
      refine rn_invV0 (by exact c_Md_isFigure e10) iv_Md_95 (by exact ⟨Nat.le_of_ble_eq_true rfl, Nat.le_of_ble_eq_true rfl⟩) (by exact dc_Md_number 41 rfl) (by exact rfl) (by exact rfl) (by exact rfl) (by exact Nat.le_of_ble_eq_true rfl) ?_
      show Rn _ _ 76 [some (.ref 53), some (.int (M_at m))] [.int x11] (emb g1 g2 x d c u t a b m4 o E) _ _ _
      by_cases c13 : ¬ x11 = 0
      · replace h12 := rn_ifp c13 h12
        refine rn_if_ne_t 83 (by exact dc_Md_number 42 rfl) (by exact rfl) c13 ?_
        refine rn_iconst (v := (0 : Int32)) (by exact dc_Md_number 45 rfl) (by decide) ?_
        cases h12
        exact rn_weak _ (by repeat (first | exact rn_le_0 | apply rn_le_s | apply rn_le_x)) jq7
      · replace h12 := rn_ifn c13 h12
        refine rn_if_ne_f 83 (by exact dc_Md_number 42 rfl) (by exact rfl) (Classical.not_not.mp c13) ?_
        refine rn_iconst (v := (1 : Int32)) (by exact dc_Md_number 43 rfl) (by decide) ?_
        refine rn_goto 84 (by exact dc_Md_number 44 rfl) (by exact rfl) ?_
        cases h12
        exact rn_weak _ (by repeat (first | exact rn_le_0 | apply rn_le_s | apply rn_le_x)) jq7
  exact rn_weak _ (by repeat (first | exact rn_le_0 | apply rn_le_s | apply rn_le_x)) (p_Md_number_L10 jx2 _ _ e1)
def F_Md_symbol_L2 (m : tM) (l1 : Int32) : Nat → Int32 → Option ((Int32 × tM) ⊕ Unit)
  | 0, _ => none
  | n + 1, l2 =>
    if (M_symbols m) ≤ l2 then (
      some (.inr ())
    ) else (
      Option.bind (aG (M_names m) 6 l2) fun x2 =>
      if ¬ x2 = l1 then (
        F_Md_symbol_L2 m l1 n (l2 + 1)
      ) else (
        some (.inl (l2, m))
      )
    )
set_option maxHeartbeats 4000000 in
set_option maxRecDepth 100000 in
theorem p_Md_symbol_L2 {Z : rn_Z} {g1 g2 : Nat} {x : tX} {d : tD} {c : tC} {u : tU} {t : tT} {a : tG} {b : tG} {m : tM} {o : tO} {E : List rn_C}  {l1 : Int32} {K : rn_K} {out : ((Int32 × tM) ⊕ Unit)} (hx : out = .inr () → Rn Z M_Md_symbol 28 [some (.ref 53), some (.int l1), none] [] (emb g1 g2 x d c u t a b m o E) 0 0 K) (hr : ∀ (rv : Int32) (mw : tM), out = .inl (rv, mw) → K = rn_Ret Z (some (.int rv)) (emb g1 g2 x d c u t a b mw o E)) (n : Nat) : ∀ (l2 : Int32), F_Md_symbol_L2 m l1 n l2 = some out → Rn Z M_Md_symbol 2 [some (.ref 53), some (.int l1), some (.int l2)] [] (emb g1 g2 x d c u t a b m o E) 0 0 K := by
  induction n with
  | zero =>
    intro l2 h
    rw [F_Md_symbol_L2] at h
    cases h
  | succ n ih =>
    intro l2 h
    rw [F_Md_symbol_L2] at h
    refine rn_iload_n (by exact dc_Md_symbol 2 rfl) (by exact rfl) ?_
    refine rn_aload_n (by exact dc_Md_symbol 3 rfl) (by exact rfl) ?_
    refine rn_getf (v := .int (M_symbols m)) fd_Md_99 (by exact dc_Md_symbol 4 rfl) (by exact rfl) (by exact rfl) ?_
    by_cases c1 : (M_symbols m) ≤ l2
    · replace h := rn_ifp c1 h
      refine rn_icmp_ge_t 28 (by exact dc_Md_symbol 5 rfl) (by exact rfl) c1 ?_
      cases h
      exact rn_weak _ (by repeat (first | exact rn_le_0 | apply rn_le_s | apply rn_le_x)) (hx rfl)
    · replace h := rn_ifn c1 h
      refine rn_icmp_ge_f 28 (by exact dc_Md_symbol 5 rfl) (by exact rfl) c1 ?_
      refine rn_aload_n (by exact dc_Md_symbol 6 rfl) (by exact rfl) ?_
      refine rn_getf (v := .ref 62) fd_Md_35 (by exact dc_Md_symbol 7 rfl) (by exact rfl) (by exact rfl) ?_
      refine rn_iload_n (by exact dc_Md_symbol 8 rfl) (by exact rfl) ?_
      obtain ⟨x2, e3, h4⟩ := rn_bind h
      clear h
      refine rn_iaload (by exact dc_Md_symbol 9 rfl) (by exact rfl) e3 ?_
      refine rn_iload_n (by exact dc_Md_symbol 10 rfl) (by exact rfl) ?_
      by_cases c5 : ¬ x2 = l1
      · replace h4 := rn_ifp c5 h4
        refine rn_icmp_ne_t 22 (by exact dc_Md_symbol 11 rfl) (by exact rfl) c5 ?_
        refine rn_iinc (ls' := [some (.ref 53), some (.int l1), some (.int (l2 + 1))]) (by exact dc_Md_symbol 14 rfl) (by decide) (by exact rfl) (by exact rn_inc_1 _) (by exact rfl) ?_
        refine rn_goto 2 (by exact dc_Md_symbol 15 rfl) (by exact rfl) ?_
        exact rn_weak _ (by repeat (first | exact rn_le_0 | apply rn_le_s | apply rn_le_x)) (ih _ h4)
      · replace h4 := rn_ifn c5 h4
        refine rn_icmp_ne_f 22 (by exact dc_Md_symbol 11 rfl) (by exact rfl) (Classical.not_not.mp c5) ?_
        refine rn_iload_n (by exact dc_Md_symbol 12 rfl) (by exact rfl) ?_
        cases h4
        have hK := hr _ _ rfl
        subst hK
        exact rn_ireturn (by exact dc_Md_symbol 13 rfl) (by exact rfl)
def F_Md_symbol (m : tM) (v0 : Int32) : Option (Int32 × tM) :=
  Option.bind (F_Md_symbol_L2 m v0 rn_fu (0 : Int32)) fun z9 =>
  match z9 with
  | .inl r8 => some r8
  | .inr _ =>
    if ¬ (M_symbols m) = (6 : Int32) then (
      Option.bind (aS (M_names m) 6 (M_symbols m) v0) fun f5 =>
      some ((M_symbols (M_put_symbols (M_put_names m f5) ((M_symbols (M_put_names m f5)) + (1 : Int32)))) - (1 : Int32), (M_put_symbols (M_put_names m f5) ((M_symbols (M_put_names m f5)) + (1 : Int32))))
    ) else (
      some ((-1 : Int32), m)
    )
set_option maxHeartbeats 4000000 in
set_option maxRecDepth 100000 in
theorem c_Md_symbol {Z : rn_Z} {g1 g2 : Nat} {x : tX} {d : tD} {c : tC} {u : tU} {t : tT} {a : tG} {b : tG} {m : tM} {o : tO} {E : List rn_C} {v0 : Int32} {res : Int32} {mR : tM} (h : F_Md_symbol m v0 = some (res, mR)) : Call Z M_Md_symbol [.ref 53, .int v0] (emb g1 g2 x d c u t a b m o E) 0 0 (some (.int res)) (emb g1 g2 x d c u t a b mR o E) := by
  unfold F_Md_symbol at h
  refine rn_call (by decide) 1 (by exact Nat.le_of_ble_eq_true rfl) ?_
  show Rn Z M_Md_symbol 0 [some (.ref 53), some (.int v0), none] [] (emb g1 g2 x d c u t a b m o E) 0 0 _
  refine rn_iconst (v := (0 : Int32)) (by exact dc_Md_symbol 0 rfl) (by decide) ?_
  refine rn_istore_n (ls' := [some (.ref 53), some (.int v0), some (.int (0 : Int32))]) (by exact dc_Md_symbol 1 rfl) (by decide) (by exact rfl) ?_
  obtain ⟨z9, e1, h3⟩ := rn_bind h
  clear h
  rcases z9 with ⟨w10, w11⟩ | _
  · dsimp only at h3
    cases h3
    exact rn_weak _ (by repeat (first | exact rn_le_0 | apply rn_le_s | apply rn_le_x)) (p_Md_symbol_L2 (fun q => by cases q) (fun _ _ q => by cases q; rfl) _ _ e1)
  · dsimp only at h3
    have jx2 : Rn Z M_Md_symbol 28 [some (.ref 53), some (.int v0), none] [] (emb g1 g2 x d c u t a b m o E) 0 0 (rn_Ret Z (some (.int res)) (emb g1 g2 x d c u t a b mR o E)) := by
      refine rn_aload_n (by exact dc_Md_symbol 16 rfl) (by exact rfl) ?_
      refine rn_getf (v := .int (M_symbols m)) fd_Md_99 (by exact dc_Md_symbol 17 rfl) (by exact rfl) (by exact rfl) ?_
      refine rn_bipush (v := (6 : Int32)) (by exact dc_Md_symbol 18 rfl) (by decide) ?_
      by_cases c4 : ¬ (M_symbols m) = (6 : Int32)
      · replace h3 := rn_ifp c4 h3
        refine rn_icmp_ne_t 39 (by exact dc_Md_symbol 19 rfl) (by exact rfl) c4 ?_
        refine rn_aload_n (by exact dc_Md_symbol 22 rfl) (by exact rfl) ?_
        refine rn_getf (v := .ref 62) fd_Md_35 (by exact dc_Md_symbol 23 rfl) (by exact rfl) (by exact rfl) ?_
        refine rn_aload_n (by exact dc_Md_symbol 24 rfl) (by exact rfl) ?_
        refine rn_getf (v := .int (M_symbols m)) fd_Md_99 (by exact dc_Md_symbol 25 rfl) (by exact rfl) (by exact rfl) ?_
        refine rn_iload_n (by exact dc_Md_symbol 26 rfl) (by exact rfl) ?_
        obtain ⟨f5, e6, h7⟩ := rn_bind h3
        clear h3
        refine rn_iastore (w2 := (emb g1 g2 x d c u t a b (M_put_names m f5) o E)) (by exact dc_Md_symbol 27 rfl) (by exact rfl) e6 (by exact sm_names) ?_
        refine rn_aload_n (by exact dc_Md_symbol 28 rfl) (by exact rfl) ?_
        refine rn_dup (by exact dc_Md_symbol 29 rfl) (by exact rfl) ?_
        refine rn_getf (v := .int (M_symbols (M_put_names m f5))) fd_Md_99 (by exact dc_Md_symbol 30 rfl) (by exact rfl) (by exact rfl) ?_
        refine rn_iconst (v := (1 : Int32)) (by exact dc_Md_symbol 31 rfl) (by decide) ?_
        refine rn_iadd (by exact dc_Md_symbol 32 rfl) ?_
        refine rn_putf (w2 := (emb g1 g2 x d c u t a b (M_put_symbols (M_put_names m f5) ((M_symbols (M_put_names m f5)) + (1 : Int32))) o E)) fd_Md_99 (by exact dc_Md_symbol 33 rfl) (by exact rfl) (by exact rfl) (by exact Nat.le_of_ble_eq_true rfl) (by exact sm_symbols) ?_
        refine rn_aload_n (by exact dc_Md_symbol 34 rfl) (by exact rfl) ?_
        refine rn_getf (v := .int (M_symbols (M_put_symbols (M_put_names m f5) ((M_symbols (M_put_names m f5)) + (1 : Int32))))) fd_Md_99 (by exact dc_Md_symbol 35 rfl) (by exact rfl) (by exact rfl) ?_
        refine rn_iconst (v := (1 : Int32)) (by exact dc_Md_symbol 36 rfl) (by decide) ?_
        refine rn_isub (by exact dc_Md_symbol 37 rfl) ?_
        cases h7
        exact rn_ireturn (by exact dc_Md_symbol 38 rfl) (by exact rfl)
      · replace h3 := rn_ifn c4 h3
        refine rn_icmp_ne_f 39 (by exact dc_Md_symbol 19 rfl) (by exact rfl) (Classical.not_not.mp c4) ?_
        refine rn_iconst (v := (-1 : Int32)) (by exact dc_Md_symbol 20 rfl) (by decide) ?_
        cases h3
        exact rn_ireturn (by exact dc_Md_symbol 21 rfl) (by exact rfl)
    exact rn_weak _ (by repeat (first | exact rn_le_0 | apply rn_le_s | apply rn_le_x)) (p_Md_symbol_L2 (fun q => by cases q; exact jx2) (fun _ _ q => by cases q) _ _ e1)
def F_Md_inverse_L5 (l0 : Int64) : Nat → Int64 → Int32 → Option Int64
  | 0, _, _ => none
  | n + 1, l2, l4 =>
    if (6 : Int32) ≤ l4 then (
      some l2
    ) else (
      F_Md_inverse_L5 l0 n (l2 * ((2 : Int64) - (l0 * l2))) (l4 + 1)
    )
set_option maxHeartbeats 4000000 in
set_option maxRecDepth 100000 in
theorem p_Md_inverse_L5 {Z : rn_Z} {g1 g2 : Nat} {x : tX} {d : tD} {c : tC} {u : tU} {t : tT} {a : tG} {b : tG} {m : tM} {o : tO} {E : List rn_C}  {l0 : Int64} {K : rn_K} {z2 : Int64} (hx : Rn Z M_Md_inverse 28 [none, none, some (.long z2), none, none] [] (emb g1 g2 x d c u t a b m o E) 0 0 K) (n : Nat) : ∀ (l2 : Int64) (l4 : Int32), F_Md_inverse_L5 l0 n l2 l4 = some z2 → Rn Z M_Md_inverse 5 [some (.long l0), none, some (.long l2), none, some (.int l4)] [] (emb g1 g2 x d c u t a b m o E) 0 0 K := by
  induction n with
  | zero =>
    intro l2 l4 h
    rw [F_Md_inverse_L5] at h
    cases h
  | succ n ih =>
    intro l2 l4 h
    rw [F_Md_inverse_L5] at h
    refine rn_iload (by exact dc_Md_inverse 4 rfl) (by exact rfl) ?_
    refine rn_bipush (v := (6 : Int32)) (by exact dc_Md_inverse 5 rfl) (by decide) ?_
    by_cases c1 : (6 : Int32) ≤ l4
    · replace h := rn_ifp c1 h
      refine rn_icmp_ge_t 28 (by exact dc_Md_inverse 6 rfl) (by exact rfl) c1 ?_
      cases h
      exact rn_weak _ (by repeat (first | exact rn_le_0 | apply rn_le_s | apply rn_le_x)) hx
    · replace h := rn_ifn c1 h
      refine rn_icmp_ge_f 28 (by exact dc_Md_inverse 6 rfl) (by exact rfl) c1 ?_
      refine rn_lload_n (by exact dc_Md_inverse 7 rfl) (by exact rfl) ?_
      refine rn_ldc2 (v := (2 : Int64)) (by exact dc_Md_inverse 8 rfl) kl_Md_102 ?_
      refine rn_lload_n (by exact dc_Md_inverse 9 rfl) (by exact rfl) ?_
      refine rn_lload_n (by exact dc_Md_inverse 10 rfl) (by exact rfl) ?_
      refine rn_lmul (by exact dc_Md_inverse 11 rfl) ?_
      refine rn_lsub (by exact dc_Md_inverse 12 rfl) ?_
      refine rn_lmul (by exact dc_Md_inverse 13 rfl) ?_
      refine rn_lstore_n (ls' := [some (.long l0), none, some (.long (l2 * ((2 : Int64) - (l0 * l2)))), none, some (.int l4)]) (by exact dc_Md_inverse 14 rfl) (by decide) (by exact rfl) ?_
      refine rn_iinc (ls' := [some (.long l0), none, some (.long (l2 * ((2 : Int64) - (l0 * l2)))), none, some (.int (l4 + 1))]) (by exact dc_Md_inverse 15 rfl) (by decide) (by exact rfl) (by exact rn_inc_1 _) (by exact rfl) ?_
      refine rn_goto 5 (by exact dc_Md_inverse 16 rfl) (by exact rfl) ?_
      exact rn_weak _ (by repeat (first | exact rn_le_0 | apply rn_le_s | apply rn_le_x)) (ih _ _ h)
def F_Md_inverse (v0 : Int64) : Option Int64 :=
  Option.bind (F_Md_inverse_L5 v0 rn_fu v0 (0 : Int32)) fun y4 =>
  some y4
set_option maxHeartbeats 4000000 in
set_option maxRecDepth 100000 in
theorem c_Md_inverse {Z : rn_Z} {g1 g2 : Nat} {x : tX} {d : tD} {c : tC} {u : tU} {t : tT} {a : tG} {b : tG} {m : tM} {o : tO} {E : List rn_C} {v0 : Int64} {res : Int64} (h : F_Md_inverse  v0 = some res) : Call Z M_Md_inverse [.long v0] (emb g1 g2 x d c u t a b m o E) 0 0 (some (.long res)) (emb g1 g2 x d c u t a b m o E) := by
  unfold F_Md_inverse at h
  refine rn_call (by decide) 3 (by exact Nat.le_of_ble_eq_true rfl) ?_
  show Rn Z M_Md_inverse 0 [some (.long v0), none, none, none, none] [] (emb g1 g2 x d c u t a b m o E) 0 0 _
  refine rn_lload_n (by exact dc_Md_inverse 0 rfl) (by exact rfl) ?_
  refine rn_lstore_n (ls' := [some (.long v0), none, some (.long v0), none, none]) (by exact dc_Md_inverse 1 rfl) (by decide) (by exact rfl) ?_
  refine rn_iconst (v := (0 : Int32)) (by exact dc_Md_inverse 2 rfl) (by decide) ?_
  refine rn_istore (ls' := [some (.long v0), none, some (.long v0), none, some (.int (0 : Int32))]) (by exact dc_Md_inverse 3 rfl) (by decide) (by exact rfl) ?_
  obtain ⟨y4, e1, h3⟩ := rn_bind h
  clear h
  have jx2 : Rn Z M_Md_inverse 28 [none, none, some (.long y4), none, none] [] (emb g1 g2 x d c u t a b m o E) 0 0 (rn_Ret Z (some (.long res)) (emb g1 g2 x d c u t a b m o E)) := by
    refine rn_lload_n (by exact dc_Md_inverse 17 rfl) (by exact rfl) ?_
    cases h3
    exact rn_lreturn (by exact dc_Md_inverse 18 rfl) (by exact rfl)
  exact rn_weak _ (by repeat (first | exact rn_le_0 | apply rn_le_s | apply rn_le_x)) (p_Md_inverse_L5 jx2 _ _ _ e1)
def F_Md_body_L7 (l1 : Int32) : Nat → tM → Option ((Int32 × tM) ⊕ tM)
  | 0, _ => none
  | n + 1, m =>
    if (M_end m) ≤ (M_at m) then (
      some (.inr m)
    ) else (
      Option.bind (aG (M_src m) 300 (M_at m)) fun x2 =>
      Option.bind (F_Md_isCapital  x2) fun x6 =>
      if ¬ x6 = 0 then (
        Option.bind (aG (M_src m) 300 (M_at m)) fun x9 =>
        Option.bind (F_Md_isCapital  x9) fun x13 =>
        Option.bind (
          if x13 = 0 then (
            Option.bind (aG (M_src m) 300 (M_at m)) fun x21 =>
            some ((x21 : Int32), m)
          ) else (
            Option.bind (aG (M_src m) 300 (M_at m)) fun x24 =>
            Option.bind (F_Md_symbol m x24) fun (x28, m29) =>
            some ((x28 : Int32), m29)
          )
         : Option (Int32 × tM)) fun (y15, m16) =>
        if y15 < 0 then (
          some (.inl ((0 : Int32), m16))
        ) else (
          Option.bind (aG (M_lengths m16) 12 l1) fun x32 =>
          if ¬ x32 = (4 : Int32) then (
            Option.bind (aG (M_lengths m16) 12 l1) fun x36 =>
            Option.bind (aS (M_bodies m16) 48 (((4 : Int32) * l1) + x36) y15) fun f39 =>
            Option.bind (aG (M_lengths (M_put_bodies m16 f39)) 12 l1) fun x42 =>
            Option.bind (aS (M_lengths (M_put_bodies m16 f39)) 12 l1 (x42 + (1 : Int32))) fun f45 =>
            F_Md_body_L7 l1 n (M_put_at (M_put_lengths (M_put_bodies m16 f39) f45) ((M_at (M_put_lengths (M_put_bodies m16 f39) f45)) + (1 : Int32)))
          ) else (
            some (.inl ((0 : Int32), m16))
          )
        )
      ) else (
        Option.bind (aG (M_src m) 300 (M_at m)) fun x48 =>
        Option.bind (F_Md_isSmall  x48) fun x52 =>
        if x52 = 0 then (
          some (.inr m)
        ) else (
          Option.bind (aG (M_src m) 300 (M_at m)) fun x55 =>
          Option.bind (F_Md_isCapital  x55) fun x59 =>
          Option.bind (
            if x59 = 0 then (
              Option.bind (aG (M_src m) 300 (M_at m)) fun x67 =>
              some ((x67 : Int32), m)
            ) else (
              Option.bind (aG (M_src m) 300 (M_at m)) fun x70 =>
              Option.bind (F_Md_symbol m x70) fun (x74, m75) =>
              some ((x74 : Int32), m75)
            )
           : Option (Int32 × tM)) fun (y61, m62) =>
          if y61 < 0 then (
            some (.inl ((0 : Int32), m62))
          ) else (
            Option.bind (aG (M_lengths m62) 12 l1) fun x78 =>
            if ¬ x78 = (4 : Int32) then (
              Option.bind (aG (M_lengths m62) 12 l1) fun x82 =>
              Option.bind (aS (M_bodies m62) 48 (((4 : Int32) * l1) + x82) y61) fun f85 =>
              Option.bind (aG (M_lengths (M_put_bodies m62 f85)) 12 l1) fun x88 =>
              Option.bind (aS (M_lengths (M_put_bodies m62 f85)) 12 l1 (x88 + (1 : Int32))) fun f91 =>
              F_Md_body_L7 l1 n (M_put_at (M_put_lengths (M_put_bodies m62 f85) f91) ((M_at (M_put_lengths (M_put_bodies m62 f85) f91)) + (1 : Int32)))
            ) else (
              some (.inl ((0 : Int32), m62))
            )
          )
        )
      )
    )
set_option maxHeartbeats 4000000 in
set_option maxRecDepth 100000 in
theorem p_Md_body_L7 {Z : rn_Z} {g1 g2 : Nat} {x : tX} {d : tD} {c : tC} {u : tU} {t : tT} {a : tG} {b : tG}  {o : tO} {E : List rn_C}  {l1 : Int32} {K : rn_K} {out : ((Int32 × tM) ⊕ tM)} (hx : ∀ (mz : tM), out = .inr mz → Rn Z M_Md_body 144 [none, none, none] [] (emb g1 g2 x d c u t a b mz o E) 0 0 K) (hr : ∀ (rv : Int32) (mw : tM), out = .inl (rv, mw) → K = rn_Ret Z (some (.int rv)) (emb g1 g2 x d c u t a b mw o E)) (n : Nat) : ∀ (m : tM), F_Md_body_L7 l1 n m = some out → Rn Z M_Md_body 7 [some (.ref 53), some (.int l1), none] [] (emb g1 g2 x d c u t a b m o E) 0 0 K := by
  induction n with
  | zero =>
    intro m h
    rw [F_Md_body_L7] at h
    cases h
  | succ n ih =>
    intro m h
    rw [F_Md_body_L7] at h
    refine rn_aload_n (by exact dc_Md_body 5 rfl) (by exact rfl) ?_
    refine rn_getf (v := .int (M_at m)) fd_Md_86 (by exact dc_Md_body 6 rfl) (by exact rfl) (by exact rfl) ?_
    refine rn_aload_n (by exact dc_Md_body 7 rfl) (by exact rfl) ?_
    refine rn_getf (v := .int (M_end m)) fd_Md_89 (by exact dc_Md_body 8 rfl) (by exact rfl) (by exact rfl) ?_
    by_cases c1 : (M_end m) ≤ (M_at m)
    · replace h := rn_ifp c1 h
      refine rn_icmp_ge_t 144 (by exact dc_Md_body 9 rfl) (by exact rfl) c1 ?_
      cases h
      exact rn_weak _ (by repeat (first | exact rn_le_0 | apply rn_le_s | apply rn_le_x)) (hx _ rfl)
    · replace h := rn_ifn c1 h
      refine rn_icmp_ge_f 144 (by exact dc_Md_body 9 rfl) (by exact rfl) c1 ?_
      refine rn_aload_n (by exact dc_Md_body 10 rfl) (by exact rfl) ?_
      refine rn_getf (v := .ref 55) fd_Md_13 (by exact dc_Md_body 11 rfl) (by exact rfl) (by exact rfl) ?_
      refine rn_aload_n (by exact dc_Md_body 12 rfl) (by exact rfl) ?_
      refine rn_getf (v := .int (M_at m)) fd_Md_86 (by exact dc_Md_body 13 rfl) (by exact rfl) (by exact rfl) ?_
      obtain ⟨x2, e3, h4⟩ := rn_bind h
      clear h
      refine rn_iaload (by exact dc_Md_body 14 rfl) (by exact rfl) e3 ?_
      obtain ⟨x6, e5, h7⟩ := rn_bind h4
      clear h4
      refine rn_invS0 (by exact c_Md_isCapital e5) is_Md_104 (by exact ⟨Nat.le_of_ble_eq_true rfl, Nat.le_of_ble_eq_true rfl⟩) (by exact dc_Md_body 15 rfl) (by exact rfl) (by exact rfl) (by exact Nat.le_of_ble_eq_true rfl) ?_
      show Rn _ _ 30 [some (.ref 53), some (.int l1), none] [.int x6] (emb g1 g2 x d c u t a b m o E) _ _ _
      by_cases c8 : ¬ x6 = 0
      · replace h7 := rn_ifp c8 h7
        refine rn_if_ne_t 48 (by exact dc_Md_body 16 rfl) (by exact rfl) c8 ?_
        refine rn_aload_n (by exact dc_Md_body 24 rfl) (by exact rfl) ?_
        refine rn_getf (v := .ref 55) fd_Md_13 (by exact dc_Md_body 25 rfl) (by exact rfl) (by exact rfl) ?_
        refine rn_aload_n (by exact dc_Md_body 26 rfl) (by exact rfl) ?_
        refine rn_getf (v := .int (M_at m)) fd_Md_86 (by exact dc_Md_body 27 rfl) (by exact rfl) (by exact rfl) ?_
        obtain ⟨x9, e10, h11⟩ := rn_bind h7
        clear h7
        refine rn_iaload (by exact dc_Md_body 28 rfl) (by exact rfl) e10 ?_
        obtain ⟨x13, e12, h14⟩ := rn_bind h11
        clear h11
        refine rn_invS0 (by exact c_Md_isCapital e12) is_Md_104 (by exact ⟨Nat.le_of_ble_eq_true rfl, Nat.le_of_ble_eq_true rfl⟩) (by exact dc_Md_body 29 rfl) (by exact rfl) (by exact rfl) (by exact Nat.le_of_ble_eq_true rfl) ?_
        show Rn _ _ 60 [some (.ref 53), some (.int l1), none] [.int x13] (emb g1 g2 x d c u t a b m o E) _ _ _
        obtain ⟨⟨y15, m16⟩, e17, h19⟩ := rn_bind h14
        clear h14
        dsimp only at h19
        have jq18 : Rn Z M_Md_body 88 [some (.ref 53), some (.int l1), none] [.int y15] (emb g1 g2 x d c u t a b m16 o E) 0 0 K := by
          refine rn_istore_n (ls' := [some (.ref 53), some (.int l1), some (.int y15)]) (by exact dc_Md_body 44 rfl) (by decide) (by exact rfl) ?_
          refine rn_iload_n (by exact dc_Md_body 45 rfl) (by exact rfl) ?_
          by_cases c31 : y15 < 0
          · replace h19 := rn_ifp c31 h19
            refine rn_if_lt_t 103 (by exact dc_Md_body 46 rfl) (by exact rfl) c31 ?_
            refine rn_iconst (v := (0 : Int32)) (by exact dc_Md_body 53 rfl) (by decide) ?_
            cases h19
            have hK := hr _ _ rfl
            subst hK
            exact rn_zreturn (by exact dc_Md_body 54 rfl) (by exact rfl) (by first | exact Or.inl rfl | exact Or.inr rfl)
          · replace h19 := rn_ifn c31 h19
            refine rn_if_lt_f 103 (by exact dc_Md_body 46 rfl) (by exact rfl) c31 ?_
            refine rn_aload_n (by exact dc_Md_body 47 rfl) (by exact rfl) ?_
            refine rn_getf (v := .ref 58) fd_Md_22 (by exact dc_Md_body 48 rfl) (by exact rfl) (by exact rfl) ?_
            refine rn_iload_n (by exact dc_Md_body 49 rfl) (by exact rfl) ?_
            obtain ⟨x32, e33, h34⟩ := rn_bind h19
            clear h19
            refine rn_iaload (by exact dc_Md_body 50 rfl) (by exact rfl) e33 ?_
            refine rn_iconst (v := (4 : Int32)) (by exact dc_Md_body 51 rfl) (by decide) ?_
            by_cases c35 : ¬ x32 = (4 : Int32)
            · replace h34 := rn_ifp c35 h34
              refine rn_icmp_ne_t 105 (by exact dc_Md_body 52 rfl) (by exact rfl) c35 ?_
              refine rn_aload_n (by exact dc_Md_body 55 rfl) (by exact rfl) ?_
              refine rn_getf (v := .ref 59) fd_Md_25 (by exact dc_Md_body 56 rfl) (by exact rfl) (by exact rfl) ?_
              refine rn_iconst (v := (4 : Int32)) (by exact dc_Md_body 57 rfl) (by decide) ?_
              refine rn_iload_n (by exact dc_Md_body 58 rfl) (by exact rfl) ?_
              refine rn_imul (by exact dc_Md_body 59 rfl) ?_
              refine rn_aload_n (by exact dc_Md_body 60 rfl) (by exact rfl) ?_
              refine rn_getf (v := .ref 58) fd_Md_22 (by exact dc_Md_body 61 rfl) (by exact rfl) (by exact rfl) ?_
              refine rn_iload_n (by exact dc_Md_body 62 rfl) (by exact rfl) ?_
              obtain ⟨x36, e37, h38⟩ := rn_bind h34
              clear h34
              refine rn_iaload (by exact dc_Md_body 63 rfl) (by exact rfl) e37 ?_
              refine rn_iadd (by exact dc_Md_body 64 rfl) ?_
              refine rn_iload_n (by exact dc_Md_body 65 rfl) (by exact rfl) ?_
              obtain ⟨f39, e40, h41⟩ := rn_bind h38
              clear h38
              refine rn_iastore (w2 := (emb g1 g2 x d c u t a b (M_put_bodies m16 f39) o E)) (by exact dc_Md_body 66 rfl) (by exact rfl) e40 (by exact sm_bodies) ?_
              refine rn_aload_n (by exact dc_Md_body 67 rfl) (by exact rfl) ?_
              refine rn_getf (v := .ref 58) fd_Md_22 (by exact dc_Md_body 68 rfl) (by exact rfl) (by exact rfl) ?_
              refine rn_iload_n (by exact dc_Md_body 69 rfl) (by exact rfl) ?_
              refine rn_dup2 (by exact dc_Md_body 70 rfl) (by exact rfl) (by exact rfl) ?_
              obtain ⟨x42, e43, h44⟩ := rn_bind h41
              clear h41
              refine rn_iaload (by exact dc_Md_body 71 rfl) (by exact rfl) e43 ?_
              refine rn_iconst (v := (1 : Int32)) (by exact dc_Md_body 72 rfl) (by decide) ?_
              refine rn_iadd (by exact dc_Md_body 73 rfl) ?_
              obtain ⟨f45, e46, h47⟩ := rn_bind h44
              clear h44
              refine rn_iastore (w2 := (emb g1 g2 x d c u t a b (M_put_lengths (M_put_bodies m16 f39) f45) o E)) (by exact dc_Md_body 74 rfl) (by exact rfl) e46 (by exact sm_lengths) ?_
              refine rn_aload_n (by exact dc_Md_body 75 rfl) (by exact rfl) ?_
              refine rn_dup (by exact dc_Md_body 76 rfl) (by exact rfl) ?_
              refine rn_getf (v := .int (M_at (M_put_lengths (M_put_bodies m16 f39) f45))) fd_Md_86 (by exact dc_Md_body 77 rfl) (by exact rfl) (by exact rfl) ?_
              refine rn_iconst (v := (1 : Int32)) (by exact dc_Md_body 78 rfl) (by decide) ?_
              refine rn_iadd (by exact dc_Md_body 79 rfl) ?_
              refine rn_putf (w2 := (emb g1 g2 x d c u t a b (M_put_at (M_put_lengths (M_put_bodies m16 f39) f45) ((M_at (M_put_lengths (M_put_bodies m16 f39) f45)) + (1 : Int32))) o E)) fd_Md_86 (by exact dc_Md_body 80 rfl) (by exact rfl) (by exact rfl) (by exact Nat.le_of_ble_eq_true rfl) (by exact sm_at) ?_
              refine rn_goto 7 (by exact dc_Md_body 81 rfl) (by exact rfl) ?_
              exact rn_weak _ (by repeat (first | exact rn_le_0 | apply rn_le_s | apply rn_le_x)) (ih _ h47)
            · replace h34 := rn_ifn c35 h34
              refine rn_icmp_ne_f 105 (by exact dc_Md_body 52 rfl) (by exact rfl) (Classical.not_not.mp c35) ?_
              refine rn_iconst (v := (0 : Int32)) (by exact dc_Md_body 53 rfl) (by decide) ?_
              cases h34
              have hK := hr _ _ rfl
              subst hK
              exact rn_zreturn (by exact dc_Md_body 54 rfl) (by exact rfl) (by first | exact Or.inl rfl | exact Or.inr rfl)
        by_cases c20 : x13 = 0
        · replace e17 := rn_ifp c20 e17
          refine rn_if_eq_t 79 (by exact dc_Md_body 30 rfl) (by exact rfl) c20 ?_
          refine rn_aload_n (by exact dc_Md_body 39 rfl) (by exact rfl) ?_
          refine rn_getf (v := .ref 55) fd_Md_13 (by exact dc_Md_body 40 rfl) (by exact rfl) (by exact rfl) ?_
          refine rn_aload_n (by exact dc_Md_body 41 rfl) (by exact rfl) ?_
          refine rn_getf (v := .int (M_at m)) fd_Md_86 (by exact dc_Md_body 42 rfl) (by exact rfl) (by exact rfl) ?_
          obtain ⟨x21, e22, h23⟩ := rn_bind e17
          clear e17
          refine rn_iaload (by exact dc_Md_body 43 rfl) (by exact rfl) e22 ?_
          cases h23
          exact rn_weak _ (by repeat (first | exact rn_le_0 | apply rn_le_s | apply rn_le_x)) jq18
        · replace e17 := rn_ifn c20 e17
          refine rn_if_eq_f 79 (by exact dc_Md_body 30 rfl) (by exact rfl) c20 ?_
          refine rn_aload_n (by exact dc_Md_body 31 rfl) (by exact rfl) ?_
          refine rn_aload_n (by exact dc_Md_body 32 rfl) (by exact rfl) ?_
          refine rn_getf (v := .ref 55) fd_Md_13 (by exact dc_Md_body 33 rfl) (by exact rfl) (by exact rfl) ?_
          refine rn_aload_n (by exact dc_Md_body 34 rfl) (by exact rfl) ?_
          refine rn_getf (v := .int (M_at m)) fd_Md_86 (by exact dc_Md_body 35 rfl) (by exact rfl) (by exact rfl) ?_
          obtain ⟨x24, e25, h26⟩ := rn_bind e17
          clear e17
          refine rn_iaload (by exact dc_Md_body 36 rfl) (by exact rfl) e25 ?_
          obtain ⟨⟨x28, m29⟩, e27, h30⟩ := rn_bind h26
          clear h26
          dsimp only at h30
          refine rn_invV0 (by exact c_Md_symbol e27) iv_Md_111 (by exact ⟨Nat.le_of_ble_eq_true rfl, Nat.le_of_ble_eq_true rfl⟩) (by exact dc_Md_body 37 rfl) (by exact rfl) (by exact rfl) (by exact rfl) (by exact Nat.le_of_ble_eq_true rfl) ?_
          show Rn _ _ 76 [some (.ref 53), some (.int l1), none] [.int x28] (emb g1 g2 x d c u t a b m29 o E) _ _ _
          refine rn_goto 88 (by exact dc_Md_body 38 rfl) (by exact rfl) ?_
          cases h30
          exact rn_weak _ (by repeat (first | exact rn_le_0 | apply rn_le_s | apply rn_le_x)) jq18
      · replace h7 := rn_ifn c8 h7
        refine rn_if_ne_f 48 (by exact dc_Md_body 16 rfl) (by exact rfl) (Classical.not_not.mp c8) ?_
        refine rn_aload_n (by exact dc_Md_body 17 rfl) (by exact rfl) ?_
        refine rn_getf (v := .ref 55) fd_Md_13 (by exact dc_Md_body 18 rfl) (by exact rfl) (by exact rfl) ?_
        refine rn_aload_n (by exact dc_Md_body 19 rfl) (by exact rfl) ?_
        refine rn_getf (v := .int (M_at m)) fd_Md_86 (by exact dc_Md_body 20 rfl) (by exact rfl) (by exact rfl) ?_
        obtain ⟨x48, e49, h50⟩ := rn_bind h7
        clear h7
        refine rn_iaload (by exact dc_Md_body 21 rfl) (by exact rfl) e49 ?_
        obtain ⟨x52, e51, h53⟩ := rn_bind h50
        clear h50
        refine rn_invS0 (by exact c_Md_isSmall e51) is_Md_108 (by exact ⟨Nat.le_of_ble_eq_true rfl, Nat.le_of_ble_eq_true rfl⟩) (by exact dc_Md_body 22 rfl) (by exact rfl) (by exact rfl) (by exact Nat.le_of_ble_eq_true rfl) ?_
        show Rn _ _ 45 [some (.ref 53), some (.int l1), none] [.int x52] (emb g1 g2 x d c u t a b m o E) _ _ _
        by_cases c54 : x52 = 0
        · replace h53 := rn_ifp c54 h53
          refine rn_if_eq_t 144 (by exact dc_Md_body 23 rfl) (by exact rfl) c54 ?_
          cases h53
          exact rn_weak _ (by repeat (first | exact rn_le_0 | apply rn_le_s | apply rn_le_x)) (hx _ rfl)
        · replace h53 := rn_ifn c54 h53
          refine rn_if_eq_f 144 (by exact dc_Md_body 23 rfl) (by exact rfl) c54 ?_
          refine rn_aload_n (by exact dc_Md_body 24 rfl) (by exact rfl) ?_
          refine rn_getf (v := .ref 55) fd_Md_13 (by exact dc_Md_body 25 rfl) (by exact rfl) (by exact rfl) ?_
          refine rn_aload_n (by exact dc_Md_body 26 rfl) (by exact rfl) ?_
          refine rn_getf (v := .int (M_at m)) fd_Md_86 (by exact dc_Md_body 27 rfl) (by exact rfl) (by exact rfl) ?_
          obtain ⟨x55, e56, h57⟩ := rn_bind h53
          clear h53
          refine rn_iaload (by exact dc_Md_body 28 rfl) (by exact rfl) e56 ?_
          obtain ⟨x59, e58, h60⟩ := rn_bind h57
          clear h57
          refine rn_invS0 (by exact c_Md_isCapital e58) is_Md_104 (by exact ⟨Nat.le_of_ble_eq_true rfl, Nat.le_of_ble_eq_true rfl⟩) (by exact dc_Md_body 29 rfl) (by exact rfl) (by exact rfl) (by exact Nat.le_of_ble_eq_true rfl) ?_
          show Rn _ _ 60 [some (.ref 53), some (.int l1), none] [.int x59] (emb g1 g2 x d c u t a b m o E) _ _ _
          obtain ⟨⟨y61, m62⟩, e63, h65⟩ := rn_bind h60
          clear h60
          dsimp only at h65
          have jq64 : Rn Z M_Md_body 88 [some (.ref 53), some (.int l1), none] [.int y61] (emb g1 g2 x d c u t a b m62 o E) 0 0 K := by
            refine rn_istore_n (ls' := [some (.ref 53), some (.int l1), some (.int y61)]) (by exact dc_Md_body 44 rfl) (by decide) (by exact rfl) ?_
            refine rn_iload_n (by exact dc_Md_body 45 rfl) (by exact rfl) ?_
            by_cases c77 : y61 < 0
            · replace h65 := rn_ifp c77 h65
              refine rn_if_lt_t 103 (by exact dc_Md_body 46 rfl) (by exact rfl) c77 ?_
              refine rn_iconst (v := (0 : Int32)) (by exact dc_Md_body 53 rfl) (by decide) ?_
              cases h65
              have hK := hr _ _ rfl
              subst hK
              exact rn_zreturn (by exact dc_Md_body 54 rfl) (by exact rfl) (by first | exact Or.inl rfl | exact Or.inr rfl)
            · replace h65 := rn_ifn c77 h65
              refine rn_if_lt_f 103 (by exact dc_Md_body 46 rfl) (by exact rfl) c77 ?_
              refine rn_aload_n (by exact dc_Md_body 47 rfl) (by exact rfl) ?_
              refine rn_getf (v := .ref 58) fd_Md_22 (by exact dc_Md_body 48 rfl) (by exact rfl) (by exact rfl) ?_
              refine rn_iload_n (by exact dc_Md_body 49 rfl) (by exact rfl) ?_
              obtain ⟨x78, e79, h80⟩ := rn_bind h65
              clear h65
              refine rn_iaload (by exact dc_Md_body 50 rfl) (by exact rfl) e79 ?_
              refine rn_iconst (v := (4 : Int32)) (by exact dc_Md_body 51 rfl) (by decide) ?_
              by_cases c81 : ¬ x78 = (4 : Int32)
              · replace h80 := rn_ifp c81 h80
                refine rn_icmp_ne_t 105 (by exact dc_Md_body 52 rfl) (by exact rfl) c81 ?_
                refine rn_aload_n (by exact dc_Md_body 55 rfl) (by exact rfl) ?_
                refine rn_getf (v := .ref 59) fd_Md_25 (by exact dc_Md_body 56 rfl) (by exact rfl) (by exact rfl) ?_
                refine rn_iconst (v := (4 : Int32)) (by exact dc_Md_body 57 rfl) (by decide) ?_
                refine rn_iload_n (by exact dc_Md_body 58 rfl) (by exact rfl) ?_
                refine rn_imul (by exact dc_Md_body 59 rfl) ?_
                refine rn_aload_n (by exact dc_Md_body 60 rfl) (by exact rfl) ?_
                refine rn_getf (v := .ref 58) fd_Md_22 (by exact dc_Md_body 61 rfl) (by exact rfl) (by exact rfl) ?_
                refine rn_iload_n (by exact dc_Md_body 62 rfl) (by exact rfl) ?_
                obtain ⟨x82, e83, h84⟩ := rn_bind h80
                clear h80
                refine rn_iaload (by exact dc_Md_body 63 rfl) (by exact rfl) e83 ?_
                refine rn_iadd (by exact dc_Md_body 64 rfl) ?_
                refine rn_iload_n (by exact dc_Md_body 65 rfl) (by exact rfl) ?_
                obtain ⟨f85, e86, h87⟩ := rn_bind h84
                clear h84
                refine rn_iastore (w2 := (emb g1 g2 x d c u t a b (M_put_bodies m62 f85) o E)) (by exact dc_Md_body 66 rfl) (by exact rfl) e86 (by exact sm_bodies) ?_
                refine rn_aload_n (by exact dc_Md_body 67 rfl) (by exact rfl) ?_
                refine rn_getf (v := .ref 58) fd_Md_22 (by exact dc_Md_body 68 rfl) (by exact rfl) (by exact rfl) ?_
                refine rn_iload_n (by exact dc_Md_body 69 rfl) (by exact rfl) ?_
                refine rn_dup2 (by exact dc_Md_body 70 rfl) (by exact rfl) (by exact rfl) ?_
                obtain ⟨x88, e89, h90⟩ := rn_bind h87
                clear h87
                refine rn_iaload (by exact dc_Md_body 71 rfl) (by exact rfl) e89 ?_
                refine rn_iconst (v := (1 : Int32)) (by exact dc_Md_body 72 rfl) (by decide) ?_
                refine rn_iadd (by exact dc_Md_body 73 rfl) ?_
                obtain ⟨f91, e92, h93⟩ := rn_bind h90
                clear h90
                refine rn_iastore (w2 := (emb g1 g2 x d c u t a b (M_put_lengths (M_put_bodies m62 f85) f91) o E)) (by exact dc_Md_body 74 rfl) (by exact rfl) e92 (by exact sm_lengths) ?_
                refine rn_aload_n (by exact dc_Md_body 75 rfl) (by exact rfl) ?_
                refine rn_dup (by exact dc_Md_body 76 rfl) (by exact rfl) ?_
                refine rn_getf (v := .int (M_at (M_put_lengths (M_put_bodies m62 f85) f91))) fd_Md_86 (by exact dc_Md_body 77 rfl) (by exact rfl) (by exact rfl) ?_
                refine rn_iconst (v := (1 : Int32)) (by exact dc_Md_body 78 rfl) (by decide) ?_
                refine rn_iadd (by exact dc_Md_body 79 rfl) ?_
                refine rn_putf (w2 := (emb g1 g2 x d c u t a b (M_put_at (M_put_lengths (M_put_bodies m62 f85) f91) ((M_at (M_put_lengths (M_put_bodies m62 f85) f91)) + (1 : Int32))) o E)) fd_Md_86 (by exact dc_Md_body 80 rfl) (by exact rfl) (by exact rfl) (by exact Nat.le_of_ble_eq_true rfl) (by exact sm_at) ?_
                refine rn_goto 7 (by exact dc_Md_body 81 rfl) (by exact rfl) ?_
                exact rn_weak _ (by repeat (first | exact rn_le_0 | apply rn_le_s | apply rn_le_x)) (ih _ h93)
              · replace h80 := rn_ifn c81 h80
                refine rn_icmp_ne_f 105 (by exact dc_Md_body 52 rfl) (by exact rfl) (Classical.not_not.mp c81) ?_
                refine rn_iconst (v := (0 : Int32)) (by exact dc_Md_body 53 rfl) (by decide) ?_
                cases h80
                have hK := hr _ _ rfl
                subst hK
                exact rn_zreturn (by exact dc_Md_body 54 rfl) (by exact rfl) (by first | exact Or.inl rfl | exact Or.inr rfl)
          by_cases c66 : x59 = 0
          · replace e63 := rn_ifp c66 e63
            refine rn_if_eq_t 79 (by exact dc_Md_body 30 rfl) (by exact rfl) c66 ?_
            refine rn_aload_n (by exact dc_Md_body 39 rfl) (by exact rfl) ?_
            refine rn_getf (v := .ref 55) fd_Md_13 (by exact dc_Md_body 40 rfl) (by exact rfl) (by exact rfl) ?_
            refine rn_aload_n (by exact dc_Md_body 41 rfl) (by exact rfl) ?_
            refine rn_getf (v := .int (M_at m)) fd_Md_86 (by exact dc_Md_body 42 rfl) (by exact rfl) (by exact rfl) ?_
            obtain ⟨x67, e68, h69⟩ := rn_bind e63
            clear e63
            refine rn_iaload (by exact dc_Md_body 43 rfl) (by exact rfl) e68 ?_
            cases h69
            exact rn_weak _ (by repeat (first | exact rn_le_0 | apply rn_le_s | apply rn_le_x)) jq64
          · replace e63 := rn_ifn c66 e63
            refine rn_if_eq_f 79 (by exact dc_Md_body 30 rfl) (by exact rfl) c66 ?_
            refine rn_aload_n (by exact dc_Md_body 31 rfl) (by exact rfl) ?_
            refine rn_aload_n (by exact dc_Md_body 32 rfl) (by exact rfl) ?_
            refine rn_getf (v := .ref 55) fd_Md_13 (by exact dc_Md_body 33 rfl) (by exact rfl) (by exact rfl) ?_
            refine rn_aload_n (by exact dc_Md_body 34 rfl) (by exact rfl) ?_
            refine rn_getf (v := .int (M_at m)) fd_Md_86 (by exact dc_Md_body 35 rfl) (by exact rfl) (by exact rfl) ?_
            obtain ⟨x70, e71, h72⟩ := rn_bind e63
            clear e63
            refine rn_iaload (by exact dc_Md_body 36 rfl) (by exact rfl) e71 ?_
            obtain ⟨⟨x74, m75⟩, e73, h76⟩ := rn_bind h72
            clear h72
            dsimp only at h76
            refine rn_invV0 (by exact c_Md_symbol e73) iv_Md_111 (by exact ⟨Nat.le_of_ble_eq_true rfl, Nat.le_of_ble_eq_true rfl⟩) (by exact dc_Md_body 37 rfl) (by exact rfl) (by exact rfl) (by exact rfl) (by exact Nat.le_of_ble_eq_true rfl) ?_
            show Rn _ _ 76 [some (.ref 53), some (.int l1), none] [.int x74] (emb g1 g2 x d c u t a b m75 o E) _ _ _
            refine rn_goto 88 (by exact dc_Md_body 38 rfl) (by exact rfl) ?_
            cases h76
            exact rn_weak _ (by repeat (first | exact rn_le_0 | apply rn_le_s | apply rn_le_x)) jq64
def F_Md_body (m : tM) (v0 : Int32) : Option (Int32 × tM) :=
  Option.bind (aS (M_lengths m) 12 v0 (0 : Int32)) fun f1 =>
  Option.bind (F_Md_body_L7 v0 rn_fu (M_put_lengths m f1)) fun z9 =>
  match z9 with
  | .inl r8 => some r8
  | .inr m7 =>
    some ((1 : Int32), m7)
set_option maxHeartbeats 4000000 in
set_option maxRecDepth 100000 in
theorem c_Md_body {Z : rn_Z} {g1 g2 : Nat} {x : tX} {d : tD} {c : tC} {u : tU} {t : tT} {a : tG} {b : tG} {m : tM} {o : tO} {E : List rn_C} {v0 : Int32} {res : Int32} {mR : tM} (h : F_Md_body m v0 = some (res, mR)) : Call Z M_Md_body [.ref 53, .int v0] (emb g1 g2 x d c u t a b m o E) 0 0 (some (.int res)) (emb g1 g2 x d c u t a b mR o E) := by
  unfold F_Md_body at h
  refine rn_call (by decide) 1 (by exact Nat.le_of_ble_eq_true rfl) ?_
  show Rn Z M_Md_body 0 [some (.ref 53), some (.int v0), none] [] (emb g1 g2 x d c u t a b m o E) 0 0 _
  refine rn_aload_n (by exact dc_Md_body 0 rfl) (by exact rfl) ?_
  refine rn_getf (v := .ref 58) fd_Md_22 (by exact dc_Md_body 1 rfl) (by exact rfl) (by exact rfl) ?_
  refine rn_iload_n (by exact dc_Md_body 2 rfl) (by exact rfl) ?_
  refine rn_iconst (v := (0 : Int32)) (by exact dc_Md_body 3 rfl) (by decide) ?_
  obtain ⟨f1, e2, h3⟩ := rn_bind h
  clear h
  refine rn_iastore (w2 := (emb g1 g2 x d c u t a b (M_put_lengths m f1) o E)) (by exact dc_Md_body 4 rfl) (by exact rfl) e2 (by exact sm_lengths) ?_
  obtain ⟨z9, e4, h6⟩ := rn_bind h3
  clear h3
  rcases z9 with ⟨w10, w11⟩ | m7
  · dsimp only at h6
    cases h6
    exact rn_weak _ (by repeat (first | exact rn_le_0 | apply rn_le_s | apply rn_le_x)) (p_Md_body_L7 (fun _ q => by cases q) (fun _ _ q => by cases q; rfl) _ _ e4)
  · dsimp only at h6
    have jx5 : Rn Z M_Md_body 144 [none, none, none] [] (emb g1 g2 x d c u t a b m7 o E) 0 0 (rn_Ret Z (some (.int res)) (emb g1 g2 x d c u t a b mR o E)) := by
      refine rn_iconst (v := (1 : Int32)) (by exact dc_Md_body 82 rfl) (by decide) ?_
      cases h6
      exact rn_zreturn (by exact dc_Md_body 83 rfl) (by exact rfl) (by first | exact Or.inl rfl | exact Or.inr rfl)
    exact rn_weak _ (by repeat (first | exact rn_le_0 | apply rn_le_s | apply rn_le_x)) (p_Md_body_L7 (fun _ q => by cases q; exact jx5) (fun _ _ q => by cases q) _ _ e4)
end
