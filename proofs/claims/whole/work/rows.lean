section
/-- a private method of a class that the tables say can be made, by its rows of tables_1 -/
def lw_okq (q : MethodName × Nat) : Prop := (q.1.cls ≠ "java/lang/invoke/MethodHandle" ∧ q.1.cls ≠ "java/lang/invoke/VarHandle") ∧ Cond.instantiable q.1.cls q.2 ∈ tables_1 ∧ Cond.privateMethod q.1 ∈ tables_1 ∧ Cond.instanceMethod q.1 ∈ tables_1
theorem lw_p0 : lw_okq (⟨"WeightedTrees", "hasGrammar", "()Z"⟩, 7) := ⟨⟨by decide +kernel, by decide +kernel⟩, List.mem_of_getElem? (i := 18) (by decide +kernel), List.mem_of_getElem? (i := 241) (by decide +kernel), List.mem_of_getElem? (i := 242) (by decide +kernel)⟩
theorem lw_p1 : lw_okq (⟨"WeightedTrees$GrammarReader", "isLeftOut", "()Z"⟩, 4) := ⟨⟨by decide +kernel, by decide +kernel⟩, List.mem_of_getElem? (i := 254) (by decide +kernel), List.mem_of_getElem? (i := 289) (by decide +kernel), List.mem_of_getElem? (i := 290) (by decide +kernel)⟩
theorem lw_p2 : lw_okq (⟨"WeightedTrees$GrammarReader", "sees", "(C)Z"⟩, 4) := ⟨⟨by decide +kernel, by decide +kernel⟩, List.mem_of_getElem? (i := 254) (by decide +kernel), List.mem_of_getElem? (i := 293) (by decide +kernel), List.mem_of_getElem? (i := 294) (by decide +kernel)⟩
theorem lw_p3 : lw_okq (⟨"WeightedTrees$GrammarReader", "seen", "()I"⟩, 4) := ⟨⟨by decide +kernel, by decide +kernel⟩, List.mem_of_getElem? (i := 254) (by decide +kernel), List.mem_of_getElem? (i := 297) (by decide +kernel), List.mem_of_getElem? (i := 298) (by decide +kernel)⟩
theorem lw_p4 : lw_okq (⟨"WeightedTrees$GrammarReader", "readRule", "()Z"⟩, 4) := ⟨⟨by decide +kernel, by decide +kernel⟩, List.mem_of_getElem? (i := 254) (by decide +kernel), List.mem_of_getElem? (i := 301) (by decide +kernel), List.mem_of_getElem? (i := 302) (by decide +kernel)⟩
theorem lw_p5 : lw_okq (⟨"WeightedTrees$GrammarReader", "readHead", "(I)Z"⟩, 4) := ⟨⟨by decide +kernel, by decide +kernel⟩, List.mem_of_getElem? (i := 254) (by decide +kernel), List.mem_of_getElem? (i := 305) (by decide +kernel), List.mem_of_getElem? (i := 306) (by decide +kernel)⟩
theorem lw_p6 : lw_okq (⟨"WeightedTrees$GrammarReader", "readSymbol", "()I"⟩, 4) := ⟨⟨by decide +kernel, by decide +kernel⟩, List.mem_of_getElem? (i := 254) (by decide +kernel), List.mem_of_getElem? (i := 312) (by decide +kernel), List.mem_of_getElem? (i := 313) (by decide +kernel)⟩
theorem lw_p7 : lw_okq (⟨"WeightedTrees$GrammarReader", "skip", "(C)Z"⟩, 4) := ⟨⟨by decide +kernel, by decide +kernel⟩, List.mem_of_getElem? (i := 254) (by decide +kernel), List.mem_of_getElem? (i := 320) (by decide +kernel), List.mem_of_getElem? (i := 321) (by decide +kernel)⟩
theorem lw_p8 : lw_okq (⟨"WeightedTrees$GrammarReader", "readBody", "(I)Z"⟩, 4) := ⟨⟨by decide +kernel, by decide +kernel⟩, List.mem_of_getElem? (i := 254) (by decide +kernel), List.mem_of_getElem? (i := 324) (by decide +kernel), List.mem_of_getElem? (i := 325) (by decide +kernel)⟩
theorem lw_p9 : lw_okq (⟨"WeightedTrees$GrammarReader", "readWeight", "(I)Z"⟩, 4) := ⟨⟨by decide +kernel, by decide +kernel⟩, List.mem_of_getElem? (i := 254) (by decide +kernel), List.mem_of_getElem? (i := 331) (by decide +kernel), List.mem_of_getElem? (i := 332) (by decide +kernel)⟩
theorem lw_p10 : lw_okq (⟨"WeightedTrees$GrammarReader", "readNumber", "()I"⟩, 4) := ⟨⟨by decide +kernel, by decide +kernel⟩, List.mem_of_getElem? (i := 254) (by decide +kernel), List.mem_of_getElem? (i := 335) (by decide +kernel), List.mem_of_getElem? (i := 336) (by decide +kernel)⟩
theorem lw_p11 : lw_okq (⟨"WeightedTrees$GrammarReader", "readCost", "(I)Z"⟩, 4) := ⟨⟨by decide +kernel, by decide +kernel⟩, List.mem_of_getElem? (i := 254) (by decide +kernel), List.mem_of_getElem? (i := 343) (by decide +kernel), List.mem_of_getElem? (i := 344) (by decide +kernel)⟩
theorem lw_p12 : lw_okq (⟨"java/lang/Throwable", "fillInStackTrace", "(I)Ljava/lang/Throwable;"⟩, 6) := ⟨⟨by decide +kernel, by decide +kernel⟩, List.mem_of_getElem? (i := 385) (by decide +kernel), List.mem_of_getElem? (i := 383) (by decide +kernel), List.mem_of_getElem? (i := 384) (by decide +kernel)⟩
theorem lw_p13 : lw_okq (⟨"WeightedTrees$Grammar", "emptyable", "()I"⟩, 10) := ⟨⟨by decide +kernel, by decide +kernel⟩, List.mem_of_getElem? (i := 127) (by decide +kernel), List.mem_of_getElem? (i := 419) (by decide +kernel), List.mem_of_getElem? (i := 420) (by decide +kernel)⟩
theorem lw_p14 : lw_okq (⟨"WeightedTrees$Grammar", "vanishes", "(III)Z"⟩, 10) := ⟨⟨by decide +kernel, by decide +kernel⟩, List.mem_of_getElem? (i := 127) (by decide +kernel), List.mem_of_getElem? (i := 423) (by decide +kernel), List.mem_of_getElem? (i := 424) (by decide +kernel)⟩
theorem lw_p15 : lw_okq (⟨"WeightedTrees$Grammar", "findReached", "(I)V"⟩, 10) := ⟨⟨by decide +kernel, by decide +kernel⟩, List.mem_of_getElem? (i := 127) (by decide +kernel), List.mem_of_getElem? (i := 437) (by decide +kernel), List.mem_of_getElem? (i := 438) (by decide +kernel)⟩
def lw_privs_1 : List (MethodName × Nat) := [(⟨"WeightedTrees", "hasGrammar", "()Z"⟩, 7), (⟨"WeightedTrees$GrammarReader", "isLeftOut", "()Z"⟩, 4), (⟨"WeightedTrees$GrammarReader", "sees", "(C)Z"⟩, 4), (⟨"WeightedTrees$GrammarReader", "seen", "()I"⟩, 4), (⟨"WeightedTrees$GrammarReader", "readRule", "()Z"⟩, 4), (⟨"WeightedTrees$GrammarReader", "readHead", "(I)Z"⟩, 4), (⟨"WeightedTrees$GrammarReader", "readSymbol", "()I"⟩, 4), (⟨"WeightedTrees$GrammarReader", "skip", "(C)Z"⟩, 4), (⟨"WeightedTrees$GrammarReader", "readBody", "(I)Z"⟩, 4), (⟨"WeightedTrees$GrammarReader", "readWeight", "(I)Z"⟩, 4), (⟨"WeightedTrees$GrammarReader", "readNumber", "()I"⟩, 4), (⟨"WeightedTrees$GrammarReader", "readCost", "(I)Z"⟩, 4), (⟨"java/lang/Throwable", "fillInStackTrace", "(I)Ljava/lang/Throwable;"⟩, 6), (⟨"WeightedTrees$Grammar", "emptyable", "()I"⟩, 10), (⟨"WeightedTrees$Grammar", "vanishes", "(III)Z"⟩, 10), (⟨"WeightedTrees$Grammar", "findReached", "(I)V"⟩, 10)]
theorem lw_r1 : ∀ q ∈ lw_privs_1, lw_okq q := List.forall_mem_cons.mpr ⟨lw_p0, List.forall_mem_cons.mpr ⟨lw_p1, List.forall_mem_cons.mpr ⟨lw_p2, List.forall_mem_cons.mpr ⟨lw_p3, List.forall_mem_cons.mpr ⟨lw_p4, List.forall_mem_cons.mpr ⟨lw_p5, List.forall_mem_cons.mpr ⟨lw_p6, List.forall_mem_cons.mpr ⟨lw_p7, List.forall_mem_cons.mpr ⟨lw_p8, List.forall_mem_cons.mpr ⟨lw_p9, List.forall_mem_cons.mpr ⟨lw_p10, List.forall_mem_cons.mpr ⟨lw_p11, List.forall_mem_cons.mpr ⟨lw_p12, List.forall_mem_cons.mpr ⟨lw_p13, List.forall_mem_cons.mpr ⟨lw_p14, List.forall_mem_cons.mpr ⟨lw_p15, fun _ h => absurd h List.not_mem_nil⟩⟩⟩⟩⟩⟩⟩⟩⟩⟩⟩⟩⟩⟩⟩⟩
theorem lw_p16 : lw_okq (⟨"WeightedTrees$Grammar", "closeReached", "()V"⟩, 10) := ⟨⟨by decide +kernel, by decide +kernel⟩, List.mem_of_getElem? (i := 127) (by decide +kernel), List.mem_of_getElem? (i := 441) (by decide +kernel), List.mem_of_getElem? (i := 442) (by decide +kernel)⟩
theorem lw_p17 : lw_okq (⟨"WeightedTrees", "takeSpareGrammar", "()V"⟩, 7) := ⟨⟨by decide +kernel, by decide +kernel⟩, List.mem_of_getElem? (i := 18) (by decide +kernel), List.mem_of_getElem? (i := 467) (by decide +kernel), List.mem_of_getElem? (i := 468) (by decide +kernel)⟩
theorem lw_p18 : lw_okq (⟨"WeightedTrees$Chart", "addRule", "(LWeightedTrees$Grammar;III)V"⟩, 10) := ⟨⟨by decide +kernel, by decide +kernel⟩, List.mem_of_getElem? (i := 43) (by decide +kernel), List.mem_of_getElem? (i := 486) (by decide +kernel), List.mem_of_getElem? (i := 487) (by decide +kernel)⟩
theorem lw_p19 : lw_okq (⟨"WeightedTrees$Chart", "matchBody", "(LWeightedTrees$Grammar;III)V"⟩, 10) := ⟨⟨by decide +kernel, by decide +kernel⟩, List.mem_of_getElem? (i := 43) (by decide +kernel), List.mem_of_getElem? (i := 490) (by decide +kernel), List.mem_of_getElem? (i := 491) (by decide +kernel)⟩
theorem lw_p20 : lw_okq (⟨"WeightedTrees$Chart", "matchNonterminal", "(IIII)V"⟩, 10) := ⟨⟨by decide +kernel, by decide +kernel⟩, List.mem_of_getElem? (i := 43) (by decide +kernel), List.mem_of_getElem? (i := 496) (by decide +kernel), List.mem_of_getElem? (i := 497) (by decide +kernel)⟩
theorem lw_p21 : lw_okq (⟨"WeightedTrees$Chart", "matchTerminal", "(IIII)V"⟩, 10) := ⟨⟨by decide +kernel, by decide +kernel⟩, List.mem_of_getElem? (i := 43) (by decide +kernel), List.mem_of_getElem? (i := 500) (by decide +kernel), List.mem_of_getElem? (i := 501) (by decide +kernel)⟩
theorem lw_p22 : lw_okq (⟨"WeightedTrees$Chart", "keepBody", "(LWeightedTrees$Grammar;III)V"⟩, 10) := ⟨⟨by decide +kernel, by decide +kernel⟩, List.mem_of_getElem? (i := 43) (by decide +kernel), List.mem_of_getElem? (i := 504) (by decide +kernel), List.mem_of_getElem? (i := 505) (by decide +kernel)⟩
theorem lw_p23 : lw_okq (⟨"WeightedTrees$UnitTable", "addRule", "(LWeightedTrees$Grammar;LWeightedTrees$Chart;I)V"⟩, 1) := ⟨⟨by decide +kernel, by decide +kernel⟩, List.mem_of_getElem? (i := 91) (by decide +kernel), List.mem_of_getElem? (i := 512) (by decide +kernel), List.mem_of_getElem? (i := 513) (by decide +kernel)⟩
theorem lw_p24 : lw_okq (⟨"WeightedTrees", "requireNonterminal", "(I)V"⟩, 7) := ⟨⟨by decide +kernel, by decide +kernel⟩, List.mem_of_getElem? (i := 18) (by decide +kernel), List.mem_of_getElem? (i := 564) (by decide +kernel), List.mem_of_getElem? (i := 565) (by decide +kernel)⟩
theorem lw_p25 : lw_okq (⟨"WeightedTrees", "requirePart", "(II)V"⟩, 7) := ⟨⟨by decide +kernel, by decide +kernel⟩, List.mem_of_getElem? (i := 18) (by decide +kernel), List.mem_of_getElem? (i := 615) (by decide +kernel), List.mem_of_getElem? (i := 616) (by decide +kernel)⟩
theorem lw_p26 : lw_okq (⟨"WeightedTrees$TreeListing", "keepPlace", "(IIII)V"⟩, 5) := ⟨⟨by decide +kernel, by decide +kernel⟩, List.mem_of_getElem? (i := 101) (by decide +kernel), List.mem_of_getElem? (i := 641) (by decide +kernel), List.mem_of_getElem? (i := 642) (by decide +kernel)⟩
theorem lw_p27 : lw_okq (⟨"WeightedTrees$TreeListing", "expand", "(LWeightedTrees$Grammar;LWeightedTrees$Chart;I)V"⟩, 5) := ⟨⟨by decide +kernel, by decide +kernel⟩, List.mem_of_getElem? (i := 101) (by decide +kernel), List.mem_of_getElem? (i := 652) (by decide +kernel), List.mem_of_getElem? (i := 653) (by decide +kernel)⟩
theorem lw_p28 : lw_okq (⟨"WeightedTreesModel", "take", "(I)I"⟩, 35) := ⟨⟨by decide +kernel, by decide +kernel⟩, List.mem_of_getElem? (i := 671) (by decide +kernel), List.mem_of_getElem? (i := 800) (by decide +kernel), List.mem_of_getElem? (i := 801) (by decide +kernel)⟩
theorem lw_p29 : lw_okq (⟨"WeightedTreesModel", "readGrammar", "(I)I"⟩, 35) := ⟨⟨by decide +kernel, by decide +kernel⟩, List.mem_of_getElem? (i := 671) (by decide +kernel), List.mem_of_getElem? (i := 804) (by decide +kernel), List.mem_of_getElem? (i := 805) (by decide +kernel)⟩
theorem lw_p30 : lw_okq (⟨"WeightedTreesModel", "ruleLine", "()Z"⟩, 35) := ⟨⟨by decide +kernel, by decide +kernel⟩, List.mem_of_getElem? (i := 671) (by decide +kernel), List.mem_of_getElem? (i := 808) (by decide +kernel), List.mem_of_getElem? (i := 809) (by decide +kernel)⟩
theorem lw_p31 : lw_okq (⟨"WeightedTreesModel", "symbol", "(I)I"⟩, 35) := ⟨⟨by decide +kernel, by decide +kernel⟩, List.mem_of_getElem? (i := 671) (by decide +kernel), List.mem_of_getElem? (i := 815) (by decide +kernel), List.mem_of_getElem? (i := 816) (by decide +kernel)⟩
def lw_privs_2 : List (MethodName × Nat) := [(⟨"WeightedTrees$Grammar", "closeReached", "()V"⟩, 10), (⟨"WeightedTrees", "takeSpareGrammar", "()V"⟩, 7), (⟨"WeightedTrees$Chart", "addRule", "(LWeightedTrees$Grammar;III)V"⟩, 10), (⟨"WeightedTrees$Chart", "matchBody", "(LWeightedTrees$Grammar;III)V"⟩, 10), (⟨"WeightedTrees$Chart", "matchNonterminal", "(IIII)V"⟩, 10), (⟨"WeightedTrees$Chart", "matchTerminal", "(IIII)V"⟩, 10), (⟨"WeightedTrees$Chart", "keepBody", "(LWeightedTrees$Grammar;III)V"⟩, 10), (⟨"WeightedTrees$UnitTable", "addRule", "(LWeightedTrees$Grammar;LWeightedTrees$Chart;I)V"⟩, 1), (⟨"WeightedTrees", "requireNonterminal", "(I)V"⟩, 7), (⟨"WeightedTrees", "requirePart", "(II)V"⟩, 7), (⟨"WeightedTrees$TreeListing", "keepPlace", "(IIII)V"⟩, 5), (⟨"WeightedTrees$TreeListing", "expand", "(LWeightedTrees$Grammar;LWeightedTrees$Chart;I)V"⟩, 5), (⟨"WeightedTreesModel", "take", "(I)I"⟩, 35), (⟨"WeightedTreesModel", "readGrammar", "(I)I"⟩, 35), (⟨"WeightedTreesModel", "ruleLine", "()Z"⟩, 35), (⟨"WeightedTreesModel", "symbol", "(I)I"⟩, 35)]
theorem lw_r2 : ∀ q ∈ lw_privs_2, lw_okq q := List.forall_mem_cons.mpr ⟨lw_p16, List.forall_mem_cons.mpr ⟨lw_p17, List.forall_mem_cons.mpr ⟨lw_p18, List.forall_mem_cons.mpr ⟨lw_p19, List.forall_mem_cons.mpr ⟨lw_p20, List.forall_mem_cons.mpr ⟨lw_p21, List.forall_mem_cons.mpr ⟨lw_p22, List.forall_mem_cons.mpr ⟨lw_p23, List.forall_mem_cons.mpr ⟨lw_p24, List.forall_mem_cons.mpr ⟨lw_p25, List.forall_mem_cons.mpr ⟨lw_p26, List.forall_mem_cons.mpr ⟨lw_p27, List.forall_mem_cons.mpr ⟨lw_p28, List.forall_mem_cons.mpr ⟨lw_p29, List.forall_mem_cons.mpr ⟨lw_p30, List.forall_mem_cons.mpr ⟨lw_p31, fun _ h => absurd h List.not_mem_nil⟩⟩⟩⟩⟩⟩⟩⟩⟩⟩⟩⟩⟩⟩⟩⟩
theorem lw_p32 : lw_okq (⟨"WeightedTreesModel", "next", "(I)Z"⟩, 35) := ⟨⟨by decide +kernel, by decide +kernel⟩, List.mem_of_getElem? (i := 671) (by decide +kernel), List.mem_of_getElem? (i := 819) (by decide +kernel), List.mem_of_getElem? (i := 820) (by decide +kernel)⟩
theorem lw_p33 : lw_okq (⟨"WeightedTreesModel", "body", "(I)Z"⟩, 35) := ⟨⟨by decide +kernel, by decide +kernel⟩, List.mem_of_getElem? (i := 671) (by decide +kernel), List.mem_of_getElem? (i := 823) (by decide +kernel), List.mem_of_getElem? (i := 824) (by decide +kernel)⟩
theorem lw_p34 : lw_okq (⟨"WeightedTreesModel", "number", "()Z"⟩, 35) := ⟨⟨by decide +kernel, by decide +kernel⟩, List.mem_of_getElem? (i := 671) (by decide +kernel), List.mem_of_getElem? (i := 830) (by decide +kernel), List.mem_of_getElem? (i := 831) (by decide +kernel)⟩
theorem lw_p35 : lw_okq (⟨"WeightedTreesModel", "isFigure", "()Z"⟩, 35) := ⟨⟨by decide +kernel, by decide +kernel⟩, List.mem_of_getElem? (i := 671) (by decide +kernel), List.mem_of_getElem? (i := 834) (by decide +kernel), List.mem_of_getElem? (i := 835) (by decide +kernel)⟩
theorem lw_p36 : lw_okq (⟨"WeightedTreesModel", "loops", "()Z"⟩, 35) := ⟨⟨by decide +kernel, by decide +kernel⟩, List.mem_of_getElem? (i := 671) (by decide +kernel), List.mem_of_getElem? (i := 842) (by decide +kernel), List.mem_of_getElem? (i := 843) (by decide +kernel)⟩
theorem lw_p37 : lw_okq (⟨"WeightedTreesModel", "findEmptyable", "()V"⟩, 35) := ⟨⟨by decide +kernel, by decide +kernel⟩, List.mem_of_getElem? (i := 671) (by decide +kernel), List.mem_of_getElem? (i := 846) (by decide +kernel), List.mem_of_getElem? (i := 847) (by decide +kernel)⟩
theorem lw_p38 : lw_okq (⟨"WeightedTreesModel", "emptyBodyCost", "(II)I"⟩, 35) := ⟨⟨by decide +kernel, by decide +kernel⟩, List.mem_of_getElem? (i := 671) (by decide +kernel), List.mem_of_getElem? (i := 850) (by decide +kernel), List.mem_of_getElem? (i := 851) (by decide +kernel)⟩
theorem lw_p39 : lw_okq (⟨"WeightedTreesModel", "isLetter", "(I)Z"⟩, 35) := ⟨⟨by decide +kernel, by decide +kernel⟩, List.mem_of_getElem? (i := 671) (by decide +kernel), List.mem_of_getElem? (i := 854) (by decide +kernel), List.mem_of_getElem? (i := 855) (by decide +kernel)⟩
theorem lw_p40 : lw_okq (⟨"WeightedTreesModel", "fillEmpty", "()V"⟩, 35) := ⟨⟨by decide +kernel, by decide +kernel⟩, List.mem_of_getElem? (i := 671) (by decide +kernel), List.mem_of_getElem? (i := 859) (by decide +kernel), List.mem_of_getElem? (i := 860) (by decide +kernel)⟩
theorem lw_p41 : lw_okq (⟨"WeightedTreesModel", "emptyBody", "(II)J"⟩, 35) := ⟨⟨by decide +kernel, by decide +kernel⟩, List.mem_of_getElem? (i := 671) (by decide +kernel), List.mem_of_getElem? (i := 863) (by decide +kernel), List.mem_of_getElem? (i := 864) (by decide +kernel)⟩
theorem lw_p42 : lw_okq (⟨"WeightedTreesModel", "fillUnits", "()V"⟩, 35) := ⟨⟨by decide +kernel, by decide +kernel⟩, List.mem_of_getElem? (i := 671) (by decide +kernel), List.mem_of_getElem? (i := 867) (by decide +kernel), List.mem_of_getElem? (i := 868) (by decide +kernel)⟩
theorem lw_p43 : lw_okq (⟨"WeightedTreesModel", "fillPart", "(II)V"⟩, 35) := ⟨⟨by decide +kernel, by decide +kernel⟩, List.mem_of_getElem? (i := 671) (by decide +kernel), List.mem_of_getElem? (i := 879) (by decide +kernel), List.mem_of_getElem? (i := 880) (by decide +kernel)⟩
theorem lw_p44 : lw_okq (⟨"WeightedTreesModel", "bodySum", "(III)J"⟩, 35) := ⟨⟨by decide +kernel, by decide +kernel⟩, List.mem_of_getElem? (i := 671) (by decide +kernel), List.mem_of_getElem? (i := 886) (by decide +kernel), List.mem_of_getElem? (i := 887) (by decide +kernel)⟩
theorem lw_p45 : lw_okq (⟨"WeightedTreesModel", "sumOf", "(III)J"⟩, 35) := ⟨⟨by decide +kernel, by decide +kernel⟩, List.mem_of_getElem? (i := 671) (by decide +kernel), List.mem_of_getElem? (i := 890) (by decide +kernel), List.mem_of_getElem? (i := 891) (by decide +kernel)⟩
theorem lw_p46 : lw_okq (⟨"WeightedTreesModel", "bodyCost", "(III)I"⟩, 35) := ⟨⟨by decide +kernel, by decide +kernel⟩, List.mem_of_getElem? (i := 671) (by decide +kernel), List.mem_of_getElem? (i := 894) (by decide +kernel), List.mem_of_getElem? (i := 895) (by decide +kernel)⟩
theorem lw_p47 : lw_okq (⟨"WeightedTreesModel", "costOf", "(III)I"⟩, 35) := ⟨⟨by decide +kernel, by decide +kernel⟩, List.mem_of_getElem? (i := 671) (by decide +kernel), List.mem_of_getElem? (i := 898) (by decide +kernel), List.mem_of_getElem? (i := 899) (by decide +kernel)⟩
def lw_privs_3 : List (MethodName × Nat) := [(⟨"WeightedTreesModel", "next", "(I)Z"⟩, 35), (⟨"WeightedTreesModel", "body", "(I)Z"⟩, 35), (⟨"WeightedTreesModel", "number", "()Z"⟩, 35), (⟨"WeightedTreesModel", "isFigure", "()Z"⟩, 35), (⟨"WeightedTreesModel", "loops", "()Z"⟩, 35), (⟨"WeightedTreesModel", "findEmptyable", "()V"⟩, 35), (⟨"WeightedTreesModel", "emptyBodyCost", "(II)I"⟩, 35), (⟨"WeightedTreesModel", "isLetter", "(I)Z"⟩, 35), (⟨"WeightedTreesModel", "fillEmpty", "()V"⟩, 35), (⟨"WeightedTreesModel", "emptyBody", "(II)J"⟩, 35), (⟨"WeightedTreesModel", "fillUnits", "()V"⟩, 35), (⟨"WeightedTreesModel", "fillPart", "(II)V"⟩, 35), (⟨"WeightedTreesModel", "bodySum", "(III)J"⟩, 35), (⟨"WeightedTreesModel", "sumOf", "(III)J"⟩, 35), (⟨"WeightedTreesModel", "bodyCost", "(III)I"⟩, 35), (⟨"WeightedTreesModel", "costOf", "(III)I"⟩, 35)]
theorem lw_r3 : ∀ q ∈ lw_privs_3, lw_okq q := List.forall_mem_cons.mpr ⟨lw_p32, List.forall_mem_cons.mpr ⟨lw_p33, List.forall_mem_cons.mpr ⟨lw_p34, List.forall_mem_cons.mpr ⟨lw_p35, List.forall_mem_cons.mpr ⟨lw_p36, List.forall_mem_cons.mpr ⟨lw_p37, List.forall_mem_cons.mpr ⟨lw_p38, List.forall_mem_cons.mpr ⟨lw_p39, List.forall_mem_cons.mpr ⟨lw_p40, List.forall_mem_cons.mpr ⟨lw_p41, List.forall_mem_cons.mpr ⟨lw_p42, List.forall_mem_cons.mpr ⟨lw_p43, List.forall_mem_cons.mpr ⟨lw_p44, List.forall_mem_cons.mpr ⟨lw_p45, List.forall_mem_cons.mpr ⟨lw_p46, List.forall_mem_cons.mpr ⟨lw_p47, fun _ h => absurd h List.not_mem_nil⟩⟩⟩⟩⟩⟩⟩⟩⟩⟩⟩⟩⟩⟩⟩⟩
theorem lw_p48 : lw_okq (⟨"WeightedTreesModel", "isSymbol", "(I)Z"⟩, 35) := ⟨⟨by decide +kernel, by decide +kernel⟩, List.mem_of_getElem? (i := 671) (by decide +kernel), List.mem_of_getElem? (i := 910) (by decide +kernel), List.mem_of_getElem? (i := 911) (by decide +kernel)⟩
theorem lw_p49 : lw_okq (⟨"WeightedTreesModel", "refusal", "(III)I"⟩, 35) := ⟨⟨by decide +kernel, by decide +kernel⟩, List.mem_of_getElem? (i := 671) (by decide +kernel), List.mem_of_getElem? (i := 930) (by decide +kernel), List.mem_of_getElem? (i := 931) (by decide +kernel)⟩
theorem lw_p50 : lw_okq (⟨"WeightedTreesModel", "unroll", "(III)V"⟩, 35) := ⟨⟨by decide +kernel, by decide +kernel⟩, List.mem_of_getElem? (i := 671) (by decide +kernel), List.mem_of_getElem? (i := 942) (by decide +kernel), List.mem_of_getElem? (i := 943) (by decide +kernel)⟩
theorem lw_p51 : lw_okq (⟨"WeightedTreesModel", "defer", "(IIII)I"⟩, 35) := ⟨⟨by decide +kernel, by decide +kernel⟩, List.mem_of_getElem? (i := 671) (by decide +kernel), List.mem_of_getElem? (i := 946) (by decide +kernel), List.mem_of_getElem? (i := 947) (by decide +kernel)⟩
theorem lw_p52 : lw_okq (⟨"WeightedTreesModel", "ruleFor", "(III)I"⟩, 35) := ⟨⟨by decide +kernel, by decide +kernel⟩, List.mem_of_getElem? (i := 671) (by decide +kernel), List.mem_of_getElem? (i := 950) (by decide +kernel), List.mem_of_getElem? (i := 951) (by decide +kernel)⟩
theorem lw_p53 : lw_okq (⟨"WeightedTreesModel", "turnOver", "(II)V"⟩, 35) := ⟨⟨by decide +kernel, by decide +kernel⟩, List.mem_of_getElem? (i := 671) (by decide +kernel), List.mem_of_getElem? (i := 954) (by decide +kernel), List.mem_of_getElem? (i := 955) (by decide +kernel)⟩
def lw_privs_4 : List (MethodName × Nat) := [(⟨"WeightedTreesModel", "isSymbol", "(I)Z"⟩, 35), (⟨"WeightedTreesModel", "refusal", "(III)I"⟩, 35), (⟨"WeightedTreesModel", "unroll", "(III)V"⟩, 35), (⟨"WeightedTreesModel", "defer", "(IIII)I"⟩, 35), (⟨"WeightedTreesModel", "ruleFor", "(III)I"⟩, 35), (⟨"WeightedTreesModel", "turnOver", "(II)V"⟩, 35)]
theorem lw_r4 : ∀ q ∈ lw_privs_4, lw_okq q := List.forall_mem_cons.mpr ⟨lw_p48, List.forall_mem_cons.mpr ⟨lw_p49, List.forall_mem_cons.mpr ⟨lw_p50, List.forall_mem_cons.mpr ⟨lw_p51, List.forall_mem_cons.mpr ⟨lw_p52, List.forall_mem_cons.mpr ⟨lw_p53, fun _ h => absurd h List.not_mem_nil⟩⟩⟩⟩⟩⟩
def lw_privs : List (MethodName × Nat) := lw_privs_1 ++ (lw_privs_2 ++ (lw_privs_3 ++ (lw_privs_4)))
def lw_tbl : List Cond := k2_sels lw_privs ++ tables_1
theorem lw_privs_ok : ∀ q ∈ lw_privs, lw_okq q := by
  show ∀ q ∈ lw_privs_1 ++ (lw_privs_2 ++ (lw_privs_3 ++ (lw_privs_4))), lw_okq q
  exact List.forall_mem_append.mpr ⟨lw_r1, List.forall_mem_append.mpr ⟨lw_r2, List.forall_mem_append.mpr ⟨lw_r3, lw_r4⟩⟩⟩
-- ===== end of PART A; then your names; then what follows =====
end
section
/-! Classes, fields, methods, codes: written by program out of the Statement and the listing. -/
def R_Wt : String := "WeightedTrees"
def T_Wt : u_T := fun k => match k with
  | 0 => ("WeightedTrees", "draft", "LWeightedTrees$Draft;", true)
  | 1 => ("WeightedTrees", "chart", "LWeightedTrees$Chart;", true)
  | 2 => ("WeightedTrees", "units", "LWeightedTrees$UnitTable;", true)
  | 3 => ("WeightedTrees", "tree", "LWeightedTrees$TreeListing;", true)
  | 4 => ("WeightedTrees", "grammar", "LWeightedTrees$Grammar;", false)
  | 5 => ("WeightedTrees", "spare", "LWeightedTrees$Grammar;", false)
  | _ => ("WeightedTrees", "wrongLine", "I", false)
def ty_Wt : Nat → FieldType := fun k => match k with
  | 0 => .object "WeightedTrees$Draft"
  | 1 => .object "WeightedTrees$Chart"
  | 2 => .object "WeightedTrees$UnitTable"
  | 3 => .object "WeightedTrees$TreeListing"
  | 4 => .object "WeightedTrees$Grammar"
  | 5 => .object "WeightedTrees$Grammar"
  | _ => .int
def R_Dr : String := "WeightedTrees$Draft"
def T_Dr : u_T := fun k => match k with
  | 0 => ("WeightedTrees$Draft", "characters", "[C", true)
  | _ => ("WeightedTrees$Draft", "length", "I", false)
def ty_Dr : Nat → FieldType := fun k => match k with
  | 0 => .array .char
  | _ => .int
def R_Ch : String := "WeightedTrees$Chart"
def T_Ch : u_T := fun k => match k with
  | 0 => ("WeightedTrees$Chart", "sums", "[J", true)
  | 1 => ("WeightedTrees$Chart", "costs", "[I", true)
  | 2 => ("WeightedTrees$Chart", "rules", "[I", true)
  | 3 => ("WeightedTrees$Chart", "sizes", "[I", true)
  | 4 => ("WeightedTrees$Chart", "lengths", "[I", true)
  | 5 => ("WeightedTrees$Chart", "letters", "[C", true)
  | 6 => ("WeightedTrees$Chart", "textLength", "I", false)
  | 7 => ("WeightedTrees$Chart", "restSums", "[[J", true)
  | 8 => ("WeightedTrees$Chart", "restCosts", "[[I", true)
  | _ => ("WeightedTrees$Chart", "restLengths", "[[I", true)
def ty_Ch : Nat → FieldType := fun k => match k with
  | 0 => .array .long
  | 1 => .array .int
  | 2 => .array .int
  | 3 => .array .int
  | 4 => .array .int
  | 5 => .array .char
  | 6 => .int
  | 7 => .array (.array .long)
  | 8 => .array (.array .int)
  | _ => .array (.array .int)
def R_Ut : String := "WeightedTrees$UnitTable"
def T_Ut : u_T := fun k => match k with
  | _ => ("WeightedTrees$UnitTable", "table", "[J", true)
def ty_Ut : Nat → FieldType := fun k => match k with
  | _ => .array .long
def R_Tl : String := "WeightedTrees$TreeListing"
def T_Tl : u_T := fun k => match k with
  | 0 => ("WeightedTrees$TreeListing", "rules", "[I", true)
  | 1 => ("WeightedTrees$TreeListing", "starts", "[I", true)
  | 2 => ("WeightedTrees$TreeListing", "ends", "[I", true)
  | 3 => ("WeightedTrees$TreeListing", "symbols", "[I", true)
  | _ => ("WeightedTrees$TreeListing", "nodeCount", "I", false)
def ty_Tl : Nat → FieldType := fun k => match k with
  | 0 => .array .int
  | 1 => .array .int
  | 2 => .array .int
  | 3 => .array .int
  | _ => .int
def R_Gr : String := "WeightedTrees$Grammar"
def T_Gr : u_T := fun k => match k with
  | 0 => ("WeightedTrees$Grammar", "heads", "[I", true)
  | 1 => ("WeightedTrees$Grammar", "bodies", "[I", true)
  | 2 => ("WeightedTrees$Grammar", "bodyLengths", "[I", true)
  | 3 => ("WeightedTrees$Grammar", "weights", "[J", true)
  | 4 => ("WeightedTrees$Grammar", "costs", "[I", true)
  | 5 => ("WeightedTrees$Grammar", "capitals", "[I", true)
  | 6 => ("WeightedTrees$Grammar", "order", "[I", true)
  | 7 => ("WeightedTrees$Grammar", "ruleCount", "I", false)
  | 8 => ("WeightedTrees$Grammar", "nonterminalCount", "I", false)
  | _ => ("WeightedTrees$Grammar", "reached", "[I", true)
def ty_Gr : Nat → FieldType := fun k => match k with
  | 0 => .array .int
  | 1 => .array .int
  | 2 => .array .int
  | 3 => .array .long
  | 4 => .array .int
  | 5 => .array .int
  | 6 => .array .int
  | 7 => .int
  | 8 => .int
  | _ => .array .int
def R_Rd : String := "WeightedTrees$GrammarReader"
def T_Rd : u_T := fun k => match k with
  | 0 => ("WeightedTrees$GrammarReader", "source", "LWeightedTrees$Draft;", true)
  | 1 => ("WeightedTrees$GrammarReader", "target", "LWeightedTrees$Grammar;", true)
  | 2 => ("WeightedTrees$GrammarReader", "at", "I", false)
  | _ => ("WeightedTrees$GrammarReader", "end", "I", false)
def ty_Rd : Nat → FieldType := fun k => match k with
  | 0 => .object "WeightedTrees$Draft"
  | 1 => .object "WeightedTrees$Grammar"
  | 2 => .int
  | _ => .int
def R_Md : String := "WeightedTreesModel"
def T_Md : u_T := fun k => match k with
  | 0 => ("WeightedTreesModel", "code", "I", false)
  | 1 => ("WeightedTreesModel", "draft", "[I", true)
  | 2 => ("WeightedTreesModel", "size", "I", false)
  | 3 => ("WeightedTreesModel", "src", "[I", true)
  | 4 => ("WeightedTreesModel", "kept", "[I", true)
  | 5 => ("WeightedTreesModel", "keptSize", "I", false)
  | 6 => ("WeightedTreesModel", "loaded", "Z", false)
  | 7 => ("WeightedTreesModel", "wrongLine", "I", false)
  | 8 => ("WeightedTreesModel", "rules", "I", false)
  | 9 => ("WeightedTreesModel", "heads", "[I", true)
  | 10 => ("WeightedTreesModel", "lengths", "[I", true)
  | 11 => ("WeightedTreesModel", "bodies", "[I", true)
  | 12 => ("WeightedTreesModel", "weights", "[J", true)
  | 13 => ("WeightedTreesModel", "costs", "[I", true)
  | 14 => ("WeightedTreesModel", "symbols", "I", false)
  | 15 => ("WeightedTreesModel", "names", "[I", true)
  | 16 => ("WeightedTreesModel", "hasText", "Z", false)
  | 17 => ("WeightedTreesModel", "letters", "I", false)
  | 18 => ("WeightedTreesModel", "text", "[I", true)
  | 19 => ("WeightedTreesModel", "emptySum", "[J", true)
  | 20 => ("WeightedTreesModel", "emptyCost", "[I", true)
  | 21 => ("WeightedTreesModel", "sums", "[J", true)
  | 22 => ("WeightedTreesModel", "least", "[I", true)
  | 23 => ("WeightedTreesModel", "units", "[J", true)
  | 24 => ("WeightedTreesModel", "upTo", "[J", true)
  | 25 => ("WeightedTreesModel", "upToNext", "[J", true)
  | 26 => ("WeightedTreesModel", "rest", "[I", true)
  | 27 => ("WeightedTreesModel", "nodes", "I", false)
  | 28 => ("WeightedTreesModel", "nodeRule", "[I", true)
  | 29 => ("WeightedTreesModel", "nodeFrom", "[I", true)
  | 30 => ("WeightedTreesModel", "nodeTo", "[I", true)
  | 31 => ("WeightedTreesModel", "waits", "[I", true)
  | 32 => ("WeightedTreesModel", "at", "I", false)
  | 33 => ("WeightedTreesModel", "end", "I", false)
  | _ => ("WeightedTreesModel", "value", "I", false)
def ty_Md : Nat → FieldType := fun k => match k with
  | 0 => .int
  | 1 => .array .int
  | 2 => .int
  | 3 => .array .int
  | 4 => .array .int
  | 5 => .int
  | 6 => .boolean
  | 7 => .int
  | 8 => .int
  | 9 => .array .int
  | 10 => .array .int
  | 11 => .array .int
  | 12 => .array .long
  | 13 => .array .int
  | 14 => .int
  | 15 => .array .int
  | 16 => .boolean
  | 17 => .int
  | 18 => .array .int
  | 19 => .array .long
  | 20 => .array .int
  | 21 => .array .long
  | 22 => .array .int
  | 23 => .array .long
  | 24 => .array .long
  | 25 => .array .long
  | 26 => .array .int
  | 27 => .int
  | 28 => .array .int
  | 29 => .array .int
  | 30 => .array .int
  | 31 => .array .int
  | 32 => .int
  | 33 => .int
  | _ => .int
abbrev rn_cl : List vw_C := [("WeightedTrees", T_Wt, 7), ("WeightedTrees$Draft", T_Dr, 2), ("WeightedTrees$Chart", T_Ch, 10), ("WeightedTrees$UnitTable", T_Ut, 1), ("WeightedTrees$TreeListing", T_Tl, 5), ("WeightedTrees$Grammar", T_Gr, 10), ("WeightedTrees$GrammarReader", T_Rd, 4), ("WeightedTreesModel", T_Md, 35)]
def rn_wk : Cond → Bool
  | .fieldLinkNest .. => true
  | .methodLinkNest .. => true
  | .castable .. => true
  | .declares _ => true
  | .arrayOver (.array _) => true
  | w => goodWord w
def rn_tb : List Cond := lw_tbl.filter rn_wk
theorem rn_in (i : Nat) {w : Cond} (h : tables_1[i]? = some w) (hk : rn_wk w = true) : w ∈ rn_tb := List.mem_filter.mpr ⟨List.mem_append_right _ (List.mem_of_getElem? h), hk⟩
theorem rn_inS (i : Nat) {w : Cond} (h : (k2_sels lw_privs)[i]? = some w) (hk : rn_wk w = true) : w ∈ rn_tb := List.mem_filter.mpr ⟨List.mem_append_left _ (List.mem_of_getElem? h), hk⟩
theorem rn_over {t : FieldType} {args a' : Array Value} {u U : State} (hal : u.vm.Alike U.vm) (h : (Cond.arrayOver (.array t)).before args u = true) : (Cond.arrayOver (.array t)).before a' U = true := by
  simp only [Cond.before, Cond.holds, Cond.value] at h ⊢
  rw [hal.findClass]
  cases hf : u.vm.findClass (FieldType.array t).toString with
  | none => rw [hf] at h; simp at h
  | some comp =>
    rw [hf] at h
    simp only [Option.bind_some] at h ⊢
    rw [hal.findIdx_congr _ (fun _ _ _ _ => rfl)]
    generalize hF : (u.vm.classes.findIdx? fun (x : Class) => match x.kind with | .array component _ => component == comp | _ => false) = fi at h ⊢
    cases fi with
    | none => simp at h
    | some c =>
      simp only [Option.bind_some] at h ⊢
      cases hk : u.vm.classes[c]? with
      | none => rw [hk] at h; simp at h
      | some k =>
        obtain ⟨k', hk', ek⟩ := hal.2.2 _ _ hk
        rw [hk] at h
        rw [hk', hal.findClass]
        have ekind : k'.kind = k.kind := by rw [ek]
        simp only [Option.map_some] at h ⊢
        rw [ekind]
        exact h
theorem rn_warm {w : Cond} {args a' : Array Value} {s U : State} (hk : rn_wk w = true) (h : w.before args s = true) (hW : s.WarmedH U.vm) : w.before a' U = true := by
  unfold rn_wk at hk
  split at hk
  · exact va_Nw.use rfl (va_Nw.warmF hW (va_Nw.of rfl h))
  · exact va_Nw.use rfl (va_Nw.warmM hW (va_Nw.of rfl h))
  · exact va_Nw.use rfl (va_Nw.warmC hW (va_Nw.of rfl h))
  · exact va_Nw.use rfl (va_Nw.warmD hW (va_Nw.of rfl h))
  · exact rn_over hW.alike h
  · exact word_at hW (good_of_word hk) h
def rn_zs : List (String × String × String) := [("java/lang/Throwable", "UNASSIGNED_STACK", "[Ljava/lang/StackTraceElement;"), ("java/lang/Throwable", "SUPPRESSED_SENTINEL", "Ljava/util/List;")]
def rn_strs : List (String × Nat × String) := [("WeightedTrees", 69, "the grammar is wrong"), ("WeightedTrees", 80, "the grammar loops"), ("WeightedTrees", 99, "the draft is no text"), ("WeightedTrees", 101, "there is no grammar"), ("WeightedTrees", 191, "there is no such nonterminal"), ("WeightedTrees", 128, "there is no such rule"), ("WeightedTrees", 193, "there is no such part of a text"), ("WeightedTrees", 157, "there is no tree"), ("WeightedTrees", 169, "there is no such node")]
end
section
/-! The core: worlds of mine (cells by number), the judgement Rn ('from here the machine comes to K'), a rule an instruction, a call by its contract. -/
abbrev rn_C : Type := (FieldType × Nat × (Nat → Int32)) ⊕ (Nat × (Nat → Int64)) ⊕ (FieldType × List (Option Nat)) ⊕ (Nat × List Value) ⊕ Unit
/-- ints (or chars), longs, references, an object, the script -/
abbrev rn_i (ty : FieldType) (n : Nat) (f : Nat → Int32) : rn_C := .inl (ty, n, f)
abbrev rn_l (n : Nat) (f : Nat → Int64) : rn_C := .inr (.inl (n, f))
abbrev rn_q (ty : FieldType) (l : List (Option Nat)) : rn_C := .inr (.inr (.inl (ty, l)))
abbrev rn_o (ci : Nat) (fs : List Value) : rn_C := .inr (.inr (.inr (.inl (ci, fs))))
abbrev rn_s : rn_C := .inr (.inr (.inr (.inr ())))
/-- a value of mine (a reference is the number of a cell) and the machine's -/
def rn_v (ad : List Nat) : Value → Value → Prop
  | .int x, u => u = .int x
  | .long x, u => u = .long x
  | .null, u => u = .null
  | .ref i, u => ∃ a, ad[i]? = some a ∧ u = .ref a
  | _, _ => False
def rn_vs (ad : List Nat) : List Value → List Value → Prop
  | [], us => us = []
  | v :: vs, us => ∃ u us', us = u :: us' ∧ rn_v ad v u ∧ rn_vs ad vs us'
def rn_r (ad : List Nat) : Option Nat → Option Nat → Prop
  | none, y => y = none
  | some i, y => ∃ a, ad[i]? = some a ∧ y = some a
def rn_c (ad : List Nat) (b : Nat) (tys : List (ClassId × FieldType)) (ws : va_W) (a : Nat) : rn_C → Prop
  | .inl (ty, n, f) => ∃ (k t0 : Nat) (cA : ClassId), ws[k]? = some (a, .inl (cA, n, .inl f)) ∧ tys[t0]? = some (cA, ty)
  | .inr (.inl (n, f)) => ∃ (k t0 : Nat) (cA : ClassId), ws[k]? = some (a, .inl (cA, n, .inr (.inl f))) ∧ tys[t0]? = some (cA, .long)
  | .inr (.inr (.inl (ty, l))) => ∃ (k t0 : Nat) (cA : ClassId) (g : Nat → Option Nat), ws[k]? = some (a, .inl (cA, l.length, .inr (.inr (.inr (.inr g))))) ∧ tys[t0]? = some (cA, ty) ∧ ty.isReference = true ∧ ∀ (j : Nat) (x : Option Nat), l[j]? = some x → rn_r ad x (g j)
  | .inr (.inr (.inr (.inl (ci, fs)))) => ∃ (k : Nat) (us : List Value), ws[k]? = some (a, .inr (ci, us)) ∧ rn_vs ad fs us
  | .inr (.inr (.inr (.inr _))) => a = b
def rn_w (ad : List Nat) (b : Nat) (tys : List (ClassId × FieldType)) (w : List rn_C) (ws : va_W) : Prop := ad.length = w.length ∧ (∀ (i j a : Nat), ad[i]? = some a → ad[j]? = some a → i = j) ∧ ∀ (i : Nat) (c : rn_C), w[i]? = some c → ∃ a, ad[i]? = some a ∧ rn_c ad b tys ws a c
theorem rn_gl {α : Type} {l m : List α} {i : Nat} {x : α} (h : l[i]? = some x) : (l ++ m)[i]? = some x := by
  rw [List.getElem?_append_left (List.getElem?_eq_some_iff.mp h).1]; exact h
theorem rn_v_grow {ad l : List Nat} {v u : Value} (h : rn_v ad v u) : rn_v (ad ++ l) v u := by
  cases v <;> first | exact h | (obtain ⟨a, h1, h2⟩ := h; exact ⟨a, rn_gl h1, h2⟩)
theorem rn_vs_grow {ad l : List Nat} : ∀ {vs us : List Value}, rn_vs ad vs us → rn_vs (ad ++ l) vs us
  | [], _, h => h
  | _ :: _, _, ⟨u, us', h1, h2, h3⟩ => ⟨u, us', h1, rn_v_grow h2, rn_vs_grow h3⟩
theorem rn_r_grow {ad l : List Nat} {x y : Option Nat} (h : rn_r ad x y) : rn_r (ad ++ l) x y := by
  cases x with
  | none => exact h
  | some i => obtain ⟨a, h1, h2⟩ := h; exact ⟨a, rn_gl h1, h2⟩
theorem rn_vs_app {ad : List Nat} : ∀ {xs ys us : List Value}, rn_vs ad (xs ++ ys) us → ∃ u1 u2, us = u1 ++ u2 ∧ rn_vs ad xs u1 ∧ rn_vs ad ys u2
  | [], _, us, h => ⟨[], us, rfl, rfl, h⟩
  | _ :: _, _, _, ⟨u, _, h1, h2, h3⟩ => by
    obtain ⟨u1, u2, e, g1, g2⟩ := rn_vs_app h3
    exact ⟨u :: u1, u2, by rw [h1, e]; rfl, ⟨u, u1, rfl, h2, g1⟩, g2⟩
theorem rn_vs_cat {ad : List Nat} : ∀ {xs ys u1 u2 : List Value}, rn_vs ad xs u1 → rn_vs ad ys u2 → rn_vs ad (xs ++ ys) (u1 ++ u2)
  | [], _, _, _, h, g => by
    have h : _ = _ := h
    subst h
    exact g
  | _ :: _, _, _, _, ⟨u, us', h1, h2, h3⟩, g => by
    subst h1
    exact ⟨u, us' ++ _, rfl, h2, rn_vs_cat h3 g⟩
theorem rn_vs_rev {ad : List Nat} : ∀ {xs us : List Value}, rn_vs ad xs us → rn_vs ad xs.reverse us.reverse
  | [], _, h => by
    have h : _ = _ := h
    subst h
    rfl
  | x :: xs, _, ⟨u, us', h1, h2, h3⟩ => by
    subst h1
    rw [List.reverse_cons, List.reverse_cons]
    exact rn_vs_cat (rn_vs_rev h3) ⟨u, [], rfl, h2, rfl⟩
theorem rn_vs_len {ad : List Nat} : ∀ {xs us : List Value}, rn_vs ad xs us → us.length = xs.length
  | [], _, h => by
    have h : _ = _ := h
    subst h
    rfl
  | x :: xs, _, ⟨u, us', h1, h2, h3⟩ => by
    subst h1
    rw [List.length_cons, List.length_cons, rn_vs_len h3]
theorem rn_v_cat {ad : List Nat} {v u : Value} (h : rn_v ad v u) : u.category = v.category := by
  cases v with
  | int x => have h : u = _ := h; subst h; rfl
  | long x => have h : u = _ := h; subst h; rfl
  | null => have h : u = _ := h; subst h; rfl
  | ref i => obtain ⟨a, -, rfl⟩ := h; rfl
  | _ => exact h.elim
theorem rn_vs_cats {ad : List Nat} : ∀ {xs us : List Value}, rn_vs ad xs us → (us.map fun v => v.category).sum = (xs.map fun v => v.category).sum
  | [], _, h => by
    have h : _ = _ := h
    subst h
    rfl
  | x :: xs, _, ⟨u, us', h1, h2, h3⟩ => by
    subst h1
    rw [List.map_cons, List.map_cons, List.sum_cons, List.sum_cons, rn_v_cat h2, rn_vs_cats h3]
theorem rn_vs_at {ad : List Nat} : ∀ {xs us : List Value} {k : Nat} {v : Value}, rn_vs ad xs us → xs[k]? = some v → ∃ u, us[k]? = some u ∧ rn_v ad v u
  | [], _, k, v, h, hk => by simp at hk
  | x :: xs, _, 0, v, ⟨u, us', h1, h2, h3⟩, hk => by
    subst h1
    rw [List.getElem?_cons_zero] at hk
    cases hk
    exact ⟨u, by rw [List.getElem?_cons_zero], h2⟩
  | x :: xs, _, k + 1, v, ⟨u, us', h1, h2, h3⟩, hk => by
    subst h1
    rw [List.getElem?_cons_succ] at hk
    obtain ⟨y, g1, g2⟩ := rn_vs_at h3 hk
    exact ⟨y, by rw [List.getElem?_cons_succ]; exact g1, g2⟩
theorem rn_vs_set {ad : List Nat} : ∀ {xs us : List Value} {k : Nat} {v u : Value}, rn_vs ad xs us → rn_v ad v u → rn_vs ad (xs.set k v) (us.set k u)
  | [], _, k, v, u, h, hk => by
    have h : _ = _ := h
    subst h
    rfl
  | x :: xs, _, 0, v, u, ⟨u0, us', h1, h2, h3⟩, hk => by
    subst h1
    exact ⟨u, us', rfl, hk, h3⟩
  | x :: xs, _, k + 1, v, u, ⟨u0, us', h1, h2, h3⟩, hk => by
    subst h1
    exact ⟨u0, us'.set k u, rfl, h2, rn_vs_set h3 hk⟩
theorem rn_c_set {ad : List Nat} {b : Nat} {tys : List (ClassId × FieldType)} {ws : va_W} {a a0 k0 : Nat} {c : rn_C} {e0 e1 : va_E} (h : rn_c ad b tys ws a c) (h0 : ws[k0]? = some (a0, e0)) (hne : a ≠ a0) : rn_c ad b tys (ws.set k0 (a0, e1)) a c := by
  have key : ∀ (k : Nat) (e : va_E), ws[k]? = some (a, e) → (ws.set k0 (a0, e1))[k]? = some (a, e) := by
    intro k e hk
    have hne2 : k0 ≠ k := by
      intro q
      subst q
      rw [h0] at hk
      cases hk
      exact hne rfl
    rw [List.getElem?_set_ne hne2]
    exact hk
  match c, h with
  | .inl (ty, n, f), ⟨k, t0, cA, h1, h2⟩ => exact ⟨k, t0, cA, key _ _ h1, h2⟩
  | .inr (.inl (n, f)), ⟨k, t0, cA, h1, h2⟩ => exact ⟨k, t0, cA, key _ _ h1, h2⟩
  | .inr (.inr (.inl (ty, l))), ⟨k, t0, cA, g, h1, h2⟩ => exact ⟨k, t0, cA, g, key _ _ h1, h2⟩
  | .inr (.inr (.inr (.inl (ci, fs)))), ⟨k, us, h1, h2⟩ => exact ⟨k, us, key _ _ h1, h2⟩
  | .inr (.inr (.inr (.inr _))), h => exact h
theorem rn_w_set {ad : List Nat} {b : Nat} {tys : List (ClassId × FieldType)} {w : List rn_C} {ws : va_W} {i a0 k0 : Nat} {c1 : rn_C} {e0 e1 : va_E} (h : rn_w ad b tys w ws) (ha : ad[i]? = some a0) (h0 : ws[k0]? = some (a0, e0)) (hc : rn_c ad b tys (ws.set k0 (a0, e1)) a0 c1) : rn_w ad b tys (w.set i c1) (ws.set k0 (a0, e1)) := by
  refine ⟨by rw [List.length_set]; exact h.1, h.2.1, fun j c hj => ?_⟩
  by_cases hji : i = j
  · subst hji
    have hl : i < w.length := by rw [← h.1]; exact (List.getElem?_eq_some_iff.mp ha).1
    rw [List.getElem?_set_self hl] at hj
    cases hj
    exact ⟨a0, ha, hc⟩
  · rw [List.getElem?_set_ne hji] at hj
    obtain ⟨a, g1, g2⟩ := h.2.2 j c hj
    exact ⟨a, g1, rn_c_set g2 h0 (fun q => hji (h.2.1 i j a0 ha (by rw [← q]; exact g1)))⟩
theorem rn_c_grow {ad l : List Nat} {b : Nat} {tys t2 : List (ClassId × FieldType)} {ws w2 : va_W} {a : Nat} {c : rn_C} (h : rn_c ad b tys ws a c) : rn_c (ad ++ l) b (tys ++ t2) (ws ++ w2) a c := by
  match c, h with
  | .inl (ty, n, f), ⟨k, t0, cA, h1, h2⟩ => exact ⟨k, t0, cA, rn_gl h1, rn_gl h2⟩
  | .inr (.inl (n, f)), ⟨k, t0, cA, h1, h2⟩ => exact ⟨k, t0, cA, rn_gl h1, rn_gl h2⟩
  | .inr (.inr (.inl (ty, l))), ⟨k, t0, cA, g, h1, h2, h3, h4⟩ => exact ⟨k, t0, cA, g, rn_gl h1, rn_gl h2, h3, fun j x hj => rn_r_grow (h4 j x hj)⟩
  | .inr (.inr (.inr (.inl (ci, fs)))), ⟨k, us, h1, h2⟩ => exact ⟨k, us, rn_gl h1, rn_vs_grow h2⟩
  | .inr (.inr (.inr (.inr _))), h => exact h
theorem rn_w_push {ad : List Nat} {b q : Nat} {tys t2 : List (ClassId × FieldType)} {w : List rn_C} {ws : va_W} {c1 : rn_C} {e1 : va_E} (h : rn_w ad b tys w ws) (hq : ∀ (j a : Nat), ad[j]? = some a → a ≠ q) (hc : rn_c (ad ++ [q]) b (tys ++ t2) (ws ++ [(q, e1)]) q c1) : rn_w (ad ++ [q]) b (tys ++ t2) (w ++ [c1]) (ws ++ [(q, e1)]) := by
  have key : ∀ (i a : Nat), (ad ++ [q])[i]? = some a → (i < ad.length ∧ ad[i]? = some a) ∨ (i = ad.length ∧ a = q) := by
    intro i a hi
    by_cases hl : i < ad.length
    · rw [List.getElem?_append_left hl] at hi
      exact Or.inl ⟨hl, hi⟩
    · rw [List.getElem?_append_right (by omega)] at hi
      have hz : i - ad.length < 1 := (List.getElem?_eq_some_iff.mp hi).1
      have e0 : i - ad.length = 0 := by omega
      rw [e0] at hi
      cases hi
      exact Or.inr ⟨by omega, rfl⟩
  refine ⟨by rw [List.length_append, List.length_append, h.1]; rfl, fun i j a hi hj => ?_, fun i c hi => ?_⟩
  · rcases key i a hi with ⟨h1, g1⟩ | ⟨h1, g1⟩ <;> rcases key j a hj with ⟨h2, g2⟩ | ⟨h2, g2⟩
    · exact h.2.1 i j a g1 g2
    · exact absurd g2 (hq i a g1)
    · exact absurd g1 (hq j a g2)
    · rw [h1, h2]
  · by_cases hl : i < w.length
    · rw [List.getElem?_append_left hl] at hi
      obtain ⟨a, g1, g2⟩ := h.2.2 i c hi
      exact ⟨a, rn_gl g1, rn_c_grow g2⟩
    · rw [List.getElem?_append_right (by omega)] at hi
      have hz : i - w.length < 1 := (List.getElem?_eq_some_iff.mp hi).1
      have e0 : i - w.length = 0 := by omega
      rw [e0] at hi
      cases hi
      have e1 : i = ad.length := by rw [h.1]; omega
      exact ⟨q, by rw [e1, List.getElem?_append_right (Nat.le_refl _), Nat.sub_self]; rfl, hc⟩
/-! what a throw needs of the heap: two statics of Throwable, and the texts -/
def rn_Ls (C n d : String) (A : Nat → Prop) (U : State) (H : Heap) : Prop := ∃ (c : ClassId) (k : Class) (i : Nat) (f : Field) (a : Nat) (cell : Cell), U.vm.findClass C = some c ∧ U.fieldFound? C n d = some (c, k, i, f) ∧ f.isStatic = true ∧ k.statics = some a ∧ H[a]? = some cell ∧ cell.vm.isStatics = true ∧ cell.cls = c ∧ f.slot < cell.slots.size ∧ k.staticTypes[f.slot]? = some f.type ∧ ¬ A a
def rn_Th (A : Nat → Prop) (U : State) (H : Heap) : Prop := (∀ z ∈ rn_zs, va_Zq z.1 z.2.1 z.2.2 A U H ∧ rn_Ls z.1 z.2.1 z.2.2 A U H) ∧ ∀ z ∈ rn_strs, ∃ a, vk_R z.1 z.2.1 z.2.2 a U
theorem rn_Th.alike {A : Nat → Prop} {s U : State} {H : Heap} (hvm : s.vm.Alike U.vm) {z : String × String × String} (h : va_Zq z.1 z.2.1 z.2.2 A s H ∧ rn_Ls z.1 z.2.1 z.2.2 A s H) : va_Zq z.1 z.2.1 z.2.2 A U H ∧ rn_Ls z.1 z.2.1 z.2.2 A U H := by
  obtain ⟨h0, c, k, i, f, a, cell, h1, h2, h3, h4, h5, h6, h7, h8, h9, h10⟩ := h
  obtain ⟨k', hi', he⟩ := State.fieldFound?_setVm hvm h2
  exact ⟨va_Zq.moved hvm h0, c, k', i, f, a, cell, by rw [hvm.findClass]; exact h1, hi', h3, by rw [he]; exact h4, h5, h6, h7, h8, by rw [he]; exact h9, h10⟩
theorem rn_Th.warm {A : Nat → Prop} {s U : State} {H : Heap} (hW : s.WarmedH U.vm) (h : rn_Th A s H) : rn_Th A U H := ⟨fun z hz => rn_Th.alike hW.alike (h.1 z hz), fun z hz => by
  obtain ⟨a, ha⟩ := h.2 z hz
  exact ⟨a, vk_R.warm hW ha⟩⟩
theorem rn_Th.same {A : Nat → Prop} {s U : State} {H : Heap} (hv : U.vm = s.vm) (h : rn_Th A s H) : rn_Th A U H := ⟨fun z hz => rn_Th.alike (by rw [hv]; exact Vm.Alike.refl s.vm) (h.1 z hz), fun z hz => by
  obtain ⟨a, ha⟩ := h.2 z hz
  exact ⟨a, vk_R.same hv ha⟩⟩
theorem rn_Th.kept {A : Nat → Prop} {U : State} {H H1 : Heap} (h : rn_Th A U H) (hq : ∀ a : Nat, a < H.size → ¬ A a → H1[a]? = H[a]?) : rn_Th A U H1 := ⟨fun z hz => by
  obtain ⟨h0, c, k, i, f, a, cell, h1, h2, h3, h4, h5, h6, h7, h8, h9, h10⟩ := h.1 z hz
  exact ⟨va_Zq.kept h0 hq, c, k, i, f, a, cell, h1, h2, h3, h4, by rw [hq a (Array.getElem?_eq_some_iff.mp h5).1 h10]; exact h5, h6, h7, h8, h9, h10⟩, h.2⟩
theorem rn_Th.narrow {A B : Nat → Prop} {U : State} {H : Heap} (h : rn_Th A U H) (hAB : ∀ q, B q → A q) : rn_Th B U H := ⟨fun z hz => by
  obtain ⟨h0, c, k, i, f, a, cell, h1, h2, h3, h4, h5, h6, h7, h8, h9, h10⟩ := h.1 z hz
  exact ⟨va_Zq.narrow h0 hAB, c, k, i, f, a, cell, h1, h2, h3, h4, h5, h6, h7, h8, h9, fun z => h10 (hAB _ z)⟩, h.2⟩
/-- the launch, the classes' numbers, the script (its address, length, values) -/
abbrev rn_Z : Type := Launch × va_G × Nat × Nat × (Nat → Int32)
/-- a method: name, code, locals, return type; how many frames and words it may nest -/
abbrev rn_M : Type := MethodName × ByteArray × Nat × Option FieldType × Nat × Nat
def rn_ws (M : rn_M) : List Cond := .code M.1 M.2.1 M.2.2.1 M.2.2.2.1 :: rn_tb
def rn_R (M : rn_M) (mc ms : Nat) : Room := { frames := M.2.2.2.2.1, cells := mc, slots := ms, locals := M.2.2.2.2.2 }
def rn_X (Z : rn_Z) (M : rn_M) (p : Program) (s : State) (m : MethodId) (args : Array Value) (meth : Method) (c : Code) (A : Nat → Prop) : Prop :=
  p.tables.exec = Jvm.exec ∧ c.code = M.2.1 ∧ c.maxLocals = M.2.2.1 ∧ s.vm.findClass M.1.cls = some m.cls ∧ (∀ w ∈ rn_tb, w.before args s = true) ∧ meth.locks = false ∧ meth.sig.returnType = M.2.2.2.1 ∧ meth.name = M.1.name ∧ (∀ q : Nat, s.heap.size ≤ q → A q) ∧ va_X Z.2.2.1 Z.2.2.2.1 Z.2.2.2.2 s s.heap ∧ Z.2.2.1 < s.heap.size ∧ ¬ A Z.2.2.1 ∧ rn_Th A s s.heap
def rn_Wd (Z : rn_Z) (A : Nat → Prop) (s : State) (H : Heap) (locs : List Loc) (ad : List Nat) (tys : List (ClassId × FieldType)) (w : List rn_C) (ws : va_W) : Prop :=
  rn_w ad Z.2.2.1 tys w ws ∧ va_P Z.2.1 rn_cl ws H ∧ va_K Z.2.1 rn_cl tys s ∧ va_D A ws ∧ va_S A s.heap H locs
def rn_L (ad : List Nat) (la : Array Slot) (n : Nat) (ls : List (Option Value)) : Prop := la.size = n ∧ lv_wf la ∧ ∀ (i : Nat) (v : Value), ls[i]? = some (some v) → ∃ u, rn_v ad v u ∧ la[i]? = some (.val u)
abbrev rn_K : Type := List Frame → Array Value → State → Nat → Nat → (Nat → Prop) → List Nat → State → Prop
def Rn (Z : rn_Z) (M : rn_M) (pc : Nat) (ls : List (Option Value)) (st : List Value) (w : List rn_C) (ca sa : Nat) (K : rn_K) : Prop :=
  ∀ {p : Program} {e : Env} {s : State} {m : MethodId} {args : Array Value} {below : List Frame} {meth : Method} {c : Code} {H : Heap} {locs : List Loc} {cells slots mc ms : Nat} {A : Nat → Prop} {ad0 ad : List Nat} {ws : va_W} {tys : List (ClassId × FieldType)} {la : Array Slot} {sta : List Value},
    rn_X Z M p s m args meth c A → rn_Wd Z A s H locs ad tys w ws → rn_L ad la M.2.2.1 ls → rn_vs ad st sta → (∃ l, ad = ad0 ++ l) → cells + ca ≤ mc → slots + sa ≤ ms →
    W p Z.1 e (rn_R M mc ms) s m args below meth c H locs cells slots (K below args s mc ms A ad0) (F0 m pc la sta)
def rn_oo (ad : List Nat) : Option Value → Option Value → Prop
  | none, v => v = none
  | some x, v => ∃ u, v = some u ∧ rn_v ad x u
/-- a method's end: it returned r, and the world is w -/
def rn_Q (Z : rn_Z) (A : Nat → Prop) (ad0 : List Nat) (r : Option Value) (w : List rn_C) : Array Value → State → Outcome → State → Prop := fun _ st o t =>
  (∃ (ad : List Nat) (ws : va_W) (tys : List (ClassId × FieldType)) (v : Option Value), (∃ l, ad = ad0 ++ l) ∧ o = .returned v ∧ rn_oo ad r v ∧ rn_w ad Z.2.2.1 tys w ws ∧ va_P Z.2.1 rn_cl ws t.heap ∧ va_K Z.2.1 rn_cl tys t ∧ va_D A ws) ∧ va_F A st t
def rn_Ret (Z : rn_Z) (r : Option Value) (w : List rn_C) : rn_K := fun below args s mc ms A ad0 => MQ below (rn_Q Z A ad0 r w) args s mc ms A
def rn_P (Z : rn_Z) (ws : va_W) (tys : List (ClassId × FieldType)) (av : List Value) (sz : Nat) : Array Value → State → Prop := va_Pc av (fun U => U.heap.size = sz ∧ va_P Z.2.1 rn_cl ws U.heap ∧ va_K Z.2.1 rn_cl tys U ∧ va_D (fun _ => True) ws ∧ va_X Z.2.2.1 Z.2.2.2.1 Z.2.2.2.2 U U.heap ∧ Z.2.2.1 < sz ∧ (∀ (k : Nat) (e : va_E), ws[k]? ≠ some (Z.2.2.1, e)) ∧ rn_Th (va_A ws sz) U U.heap)
/-- a method's contract: from the world w, with the arguments av, it returns r, and the world is w1; ca cells of sa slots may be made -/
def Call (Z : rn_Z) (M : rn_M) (av : List Value) (w : List rn_C) (ca sa : Nat) (r : Option Value) (w1 : List rn_C) : Prop :=
  ∀ (ad : List Nat) (ws : va_W) (tys : List (ClassId × FieldType)) (ava : List Value) (sz : Nat), rn_vs ad av ava → rn_w ad Z.2.2.1 tys w ws →
    Met Z.1 M.1 (rn_ws M) (rn_R M ca sa) (rn_P Z ws tys ava sz) (rn_Q Z (va_A ws sz) ad r w1) ca sa (va_A ws sz)
def rn_ent : List Value → List (Option Value)
  | [] => []
  | v :: vs => if v.category = 2 then some v :: none :: rn_ent vs else some v :: rn_ent vs
theorem rn_ent_len {ad : List Nat} : ∀ {av ava : List Value}, rn_vs ad av ava → (lg_sl ava).length = (rn_ent av).length
  | [], _, h => by
    have h : _ = _ := h
    subst h
    rfl
  | v :: vs, _, ⟨u, us, h1, h2, h3⟩ => by
    subst h1
    have hi := rn_ent_len h3
    have hc := rn_v_cat h2
    by_cases h : v.category = 2
    · have e1 : lg_sl (u :: us) = [.val u, .second] ++ lg_sl us := by simp [lg_sl, hc, h]
      have e2 : rn_ent (v :: vs) = some v :: none :: rn_ent vs := by simp [rn_ent, h]
      rw [e1, e2]
      simp [hi]
    · have e1 : lg_sl (u :: us) = [.val u] ++ lg_sl us := by simp [lg_sl, hc, h]
      have e2 : rn_ent (v :: vs) = some v :: rn_ent vs := by simp [rn_ent, h]
      rw [e1, e2]
      simp [hi]
theorem rn_ent_at {ad : List Nat} : ∀ {av ava : List Value} (n i : Nat) {v : Value}, rn_vs ad av ava → (rn_ent av)[i]? = some (some v) → ∃ u, rn_v ad v u ∧ (n + i, u) ∈ lv_args n ava
  | [], _, n, i, v, h, hi => by simp [rn_ent] at hi
  | x :: xs, _, n, i, v, ⟨u, us, h1, h2, h3⟩, hi => by
    subst h1
    have hc := rn_v_cat h2
    by_cases h : x.category = 2
    · have e2 : rn_ent (x :: xs) = some x :: none :: rn_ent xs := by simp [rn_ent, h]
      rw [e2] at hi
      have e1 : lv_args n (u :: us) = (n, u) :: lv_args (n + 2) us := by simp [lv_args, hc, h]
      rw [e1]
      match i, hi with
      | 0, hi =>
        rw [List.getElem?_cons_zero] at hi
        cases hi
        exact ⟨u, h2, List.mem_cons_self⟩
      | 1, hi => simp at hi
      | j + 2, hi =>
        rw [List.getElem?_cons_succ, List.getElem?_cons_succ] at hi
        obtain ⟨y, g1, g2⟩ := rn_ent_at (n + 2) j h3 hi
        refine ⟨y, g1, List.mem_cons_of_mem _ ?_⟩
        rw [show n + (j + 2) = n + 2 + j by omega]
        exact g2
    · have e2 : rn_ent (x :: xs) = some x :: rn_ent xs := by simp [rn_ent, h]
      rw [e2] at hi
      have e1 : lv_args n (u :: us) = (n, u) :: lv_args (n + 1) us := by simp [lv_args, hc, h]
      rw [e1]
      match i, hi with
      | 0, hi =>
        rw [List.getElem?_cons_zero] at hi
        cases hi
        exact ⟨u, h2, List.mem_cons_self⟩
      | j + 1, hi =>
        rw [List.getElem?_cons_succ] at hi
        obtain ⟨y, g1, g2⟩ := rn_ent_at (n + 1) j h3 hi
        refine ⟨y, g1, List.mem_cons_of_mem _ ?_⟩
        rw [show n + (j + 1) = n + 1 + j by omega]
        exact g2
theorem rn_ent_L {ad : List Nat} {av ava : List Value} {n k : Nat} (h : rn_vs ad av ava) (hn : (rn_ent av).length ≤ n) : rn_L ad ((lg_sl ava ++ List.replicate (n - (lg_sl ava).length) Slot.unset).toArray) n (rn_ent av ++ List.replicate k none) := by
  obtain ⟨h1, h2, h3⟩ := lv_entry ava (n := n) (by rw [rn_ent_len h]; exact hn)
  refine ⟨h1, h2, fun i v hi => ?_⟩
  by_cases hl : i < (rn_ent av).length
  · rw [List.getElem?_append_left hl] at hi
    obtain ⟨u, g1, g2⟩ := rn_ent_at 0 i h hi
    rw [Nat.zero_add] at g2
    exact ⟨u, g1, h3 _ g2⟩
  · rw [List.getElem?_append_right (by omega)] at hi
    have := List.eq_of_mem_replicate (List.mem_of_getElem? hi)
    cases this
theorem rn_L_grow {ad l : List Nat} {la : Array Slot} {n : Nat} {ls : List (Option Value)} (h : rn_L ad la n ls) : rn_L (ad ++ l) la n ls := ⟨h.1, h.2.1, fun i v hi => by
  obtain ⟨u, g1, g2⟩ := h.2.2 i v hi
  exact ⟨u, rn_v_grow g1, g2⟩⟩
/-- fewer locals are known -/
def rn_le : List (Option Value) → List (Option Value) → Prop
  | [], _ => True
  | none :: xs, ys => rn_le xs ys.tail
  | some v :: xs, ys => ys.head? = some (some v) ∧ rn_le xs ys.tail
theorem rn_le_at : ∀ {xs ys : List (Option Value)} {i : Nat} {v : Value}, rn_le xs ys → xs[i]? = some (some v) → ys[i]? = some (some v)
  | [], _, i, v, _, h => by simp at h
  | none :: xs, ys, 0, v, _, h => by simp at h
  | none :: xs, ys, i + 1, v, hl, h => by
    rw [List.getElem?_cons_succ] at h
    have := rn_le_at (xs := xs) (ys := ys.tail) hl h
    cases ys with
    | nil => simp at this
    | cons y ys => rw [List.getElem?_cons_succ]; exact this
  | some x :: xs, ys, 0, v, hl, h => by
    rw [List.getElem?_cons_zero] at h
    cases h
    have := hl.1
    cases ys with
    | nil => simp at this
    | cons y ys => rw [List.head?_cons] at this; rw [List.getElem?_cons_zero]; exact this
  | some x :: xs, ys, i + 1, v, hl, h => by
    rw [List.getElem?_cons_succ] at h
    have := rn_le_at (xs := xs) (ys := ys.tail) hl.2 h
    cases ys with
    | nil => simp at this
    | cons y ys => rw [List.getElem?_cons_succ]; exact this
theorem rn_le_0 {ys : List (Option Value)} : rn_le [] ys := trivial
theorem rn_le_s {v : Value} {xs ys : List (Option Value)} (h : rn_le xs ys) : rn_le (some v :: xs) (some v :: ys) := ⟨rfl, h⟩
theorem rn_le_x {y : Option Value} {xs ys : List (Option Value)} (h : rn_le xs ys) : rn_le (none :: xs) (y :: ys) := h
theorem rn_bind {α β : Type} {o : Option α} {k : α → Option β} {y : β} (h : Option.bind o k = some y) : ∃ x, o = some x ∧ k x = some y := by
  cases o with
  | none => cases h
  | some x => exact ⟨x, rfl, h⟩
theorem rn_ifp {α : Type} {c : Prop} [Decidable c] {a b r : α} (hc : c) (h : (if c then a else b) = r) : a = r := by rwa [if_pos hc] at h
theorem rn_ifn {α : Type} {c : Prop} [Decidable c] {a b r : α} (hc : ¬ c) (h : (if c then a else b) = r) : b = r := by rwa [if_neg hc] at h
theorem rn_inc_1 (x : Int32) : x + Int32.ofInt 1 = x + 1 := congrArg (fun z => x + z) (by decide)
theorem rn_inc_4 (x : Int32) : x + Int32.ofInt 4 = x + 4 := congrArg (fun z => x + z) (by decide)
theorem rn_inc_m1 (x : Int32) : x + Int32.ofInt (-1) = x + (-1) := congrArg (fun z => x + z) (by decide)
def rn_bl (x : Int32) : Option Int32 := if x = 0 then some x else if x = 1 then some x else none
theorem rn_bl_some {x y : Int32} (h : rn_bl x = some y) : y = x ∧ (x = 0 ∨ x = 1) := by
  unfold rn_bl at h
  split at h
  next h0 => exact ⟨(Option.some.inj h).symm, Or.inl h0⟩
  next =>
    split at h
    next h1 => exact ⟨(Option.some.inj h).symm, Or.inr h1⟩
    next => cases h
abbrev rn_fu : Nat := 1000000
def up2 {α : Type} (f : Nat → Nat → α) (j : Nat) (g : Nat → α) : Nat → Nat → α := fun k => if k = j then g else f k
/-! storing a local -/
def rn_two : Option Value → Bool
  | some (.long _) => true
  | some (.double _) => true
  | _ => false
theorem rn_two_of {v : Value} (h : v.category = 2) : rn_two (some v) = true := by
  cases v <;> first | rfl | (simp [Value.category] at h)
def rn_s1 : List (Option Value) → Nat → Value → List (Option Value)
  | [], _, _ => []
  | _ :: t, 0, v => some v :: t
  | a :: t, i + 1, v => (bif (i == 0) && rn_two a then none else a) :: rn_s1 t i v
theorem rn_s1_at : ∀ {ls : List (Option Value)} {i j : Nat} {v x : Value}, (rn_s1 ls i v)[j]? = some (some x) → (j = i ∧ x = v) ∨ (j ≠ i ∧ ls[j]? = some (some x) ∧ ¬ (j + 1 = i ∧ x.category = 2))
  | [], i, j, v, x, h => by simp [rn_s1] at h
  | a :: t, 0, j, v, x, h => by
    rw [rn_s1] at h
    cases j with
    | zero =>
      rw [List.getElem?_cons_zero] at h
      cases h
      exact Or.inl ⟨rfl, rfl⟩
    | succ j =>
      rw [List.getElem?_cons_succ] at h
      exact Or.inr ⟨by omega, by rw [List.getElem?_cons_succ]; exact h, by omega⟩
  | a :: t, i + 1, j, v, x, h => by
    rw [rn_s1] at h
    cases j with
    | zero =>
      rw [List.getElem?_cons_zero] at h
      cases hb : ((i == 0) && rn_two a) with
      | true => rw [hb] at h; cases h
      | false =>
        rw [hb] at h
        have h : some a = some (some x) := h
        have ha : a = some x := Option.some.inj h
        refine Or.inr ⟨by omega, by rw [List.getElem?_cons_zero]; exact h, fun q => ?_⟩
        rw [ha, rn_two_of q.2] at hb
        have e0 : i = 0 := by omega
        rw [e0] at hb
        cases hb
    | succ j =>
      rw [List.getElem?_cons_succ] at h
      rcases rn_s1_at h with ⟨h1, h2⟩ | ⟨h1, h2, h3⟩
      · exact Or.inl ⟨by omega, h2⟩
      · exact Or.inr ⟨by omega, by rw [List.getElem?_cons_succ]; exact h2, fun q => h3 ⟨by omega, q.2⟩⟩
def rn_s2 (ls : List (Option Value)) (i : Nat) (v : Value) : List (Option Value) := (rn_s1 ls i v).set (i + 1) none
theorem rn_s2_at {ls : List (Option Value)} {i j : Nat} {v x : Value} (h : (rn_s2 ls i v)[j]? = some (some x)) : (j = i ∧ x = v) ∨ (j ≠ i ∧ j ≠ i + 1 ∧ ls[j]? = some (some x) ∧ ¬ (j + 1 = i ∧ x.category = 2)) := by
  unfold rn_s2 at h
  by_cases hj : i + 1 = j
  · subst hj
    rw [List.getElem?_set] at h
    simp at h
  · rw [List.getElem?_set_ne hj] at h
    rcases rn_s1_at h with h1 | ⟨h1, h2, h3⟩
    · exact Or.inl h1
    · exact Or.inr ⟨h1, fun q => hj q.symm, h2, h3⟩
def rn_av (la : Array Slot) (n : Nat) : List (Nat × Value) := (List.range n).filterMap fun (j : Nat) => match la[j]? with
  | some (Slot.val u) => some (j, u)
  | _ => none
theorem rn_av_in {la : Array Slot} {n j : Nat} {u : Value} (hn : la.size = n) (h : la[j]? = some (.val u)) : (j, u) ∈ rn_av la n := by
  have hj : j < n := by rw [← hn]; exact (Array.getElem?_eq_some_iff.mp h).1
  exact List.mem_filterMap.mpr ⟨j, List.mem_range.mpr hj, by rw [h]⟩
theorem rn_av_has {la : Array Slot} {n : Nat} (hn : la.size = n) (hw : lv_wf la) : lv_has la n (rn_av la n) := by
  refine ⟨hn, hw, fun q hq => ?_⟩
  obtain ⟨j, -, hj⟩ := List.mem_filterMap.mp hq
  cases hl : la[j]? with
  | none => rw [hl] at hj; cases hj
  | some x =>
    rw [hl] at hj
    cases x with
    | val u => cases hj; exact hl
    | _ => cases hj
theorem rn_L1 {ad : List Nat} {la la' : Array Slot} {n i : Nat} {ls : List (Option Value)} {v u : Value} (h : rn_L ad la n ls) (hv : rn_v ad v u) (h' : lv_has la' n ((i, u) :: (rn_av la n).filter (fun q => !(q.1 == i) && !(q.1 + 1 == i && q.2.category == 2)))) : rn_L ad la' n (rn_s1 ls i v) := by
  refine ⟨h'.1, h'.2.1, fun j x hj => ?_⟩
  rcases rn_s1_at hj with ⟨h1, h2⟩ | ⟨h1, h2, h3⟩
  · subst h1; subst h2
    exact ⟨u, hv, h'.2.2 _ List.mem_cons_self⟩
  · obtain ⟨y, g1, g2⟩ := h.2.2 j x h2
    refine ⟨y, g1, h'.2.2 (j, y) (List.mem_cons_of_mem _ (List.mem_filter.mpr ⟨rn_av_in h.1 g2, ?_⟩))⟩
    have hc := rn_v_cat g1
    by_cases h4 : j + 1 = i
    · have h5 : ¬ x.category = 2 := fun q => h3 ⟨h4, q⟩
      simp [h1, hc, h5]
    · simp [h1, h4]
theorem rn_L2 {ad : List Nat} {la la' : Array Slot} {n i : Nat} {ls : List (Option Value)} {v u : Value} (h : rn_L ad la n ls) (hv : rn_v ad v u) (h' : lv_has la' n ((i, u) :: (rn_av la n).filter (fun q => !(q.1 == i) && (!(q.1 == i + 1) && !(q.1 + 1 == i && q.2.category == 2))))) : rn_L ad la' n (rn_s2 ls i v) := by
  refine ⟨h'.1, h'.2.1, fun j x hj => ?_⟩
  rcases rn_s2_at hj with ⟨h1, h2⟩ | ⟨h1, h1', h2, h3⟩
  · subst h1; subst h2
    exact ⟨u, hv, h'.2.2 _ List.mem_cons_self⟩
  · obtain ⟨y, g1, g2⟩ := h.2.2 j x h2
    refine ⟨y, g1, h'.2.2 (j, y) (List.mem_cons_of_mem _ (List.mem_filter.mpr ⟨rn_av_in h.1 g2, ?_⟩))⟩
    have hc := rn_v_cat g1
    by_cases h4 : j + 1 = i
    · have h5 : ¬ x.category = 2 := fun q => h3 ⟨h4, q⟩
      simp [h1, h1', hc, h5]
    · simp [h1, h1', h4]
section
variable {Z : rn_Z} {M : rn_M} {pc : Nat} {ls : List (Option Value)} {st : List Value} {w : List rn_C} {ca sa : Nat} {K : rn_K}
/-- the start -/
theorem rn_call {av : List Value} {r : Option Value} {w1 : List rn_C} (hp : plainName M.1.cls = true) (n : Nat) (hn : (rn_ent av).length ≤ M.2.2.1) (k : Rn Z M 0 (rn_ent av ++ List.replicate n none) [] w ca sa (rn_Ret Z r w1)) : Call Z M av w ca sa r w1 := by
  intro ad ws tys ava sz hav hw
  refine Met.ofW (cc := M.2.1) (maxL := M.2.2.1) (ret := M.2.2.2.1) hp rfl ?_
  intro p e s m args below meth c s₁ B hml hv
  obtain ⟨rfl, hsz, hP, hK, hD0, hX, hb, hbn, hTh⟩ := hv
  subst hsz
  have hts := atoms_spec (ws := rn_ws M) B.pre
  rw [lg_entry_eq]
  refine k ⟨B.exec, B.bytes, hml, findClass_of_methodNamed B.named, fun w h => hts w (List.mem_cons_of_mem _ h), B.notSynchronized, B.returns, (name_of_methodNamed B.named B.method).1, fun q h => Or.inr h, hX, hb, ?_, hTh⟩ ⟨hw, hP, hK, hD0.self, va_S.rf⟩ (rn_ent_L hav hn) rfl ⟨[], by simp⟩ (by omega) (by omega)
  intro q
  rcases q with ⟨k1, e1, h1⟩ | h1
  · exact hbn k1 e1 h1
  · omega
theorem rn_weak (ls' : List (Option Value)) (h : rn_le ls' ls) (k : Rn Z M pc ls' st w ca sa K) : Rn Z M pc ls st w ca sa K := by
  intro p e s m args below meth c H locs cells slots mc ms A ad0 ad ws tys la sta hC hW hL hS hp h1 h2
  exact k hC hW ⟨hL.1, hL.2.1, fun i v hi => hL.2.2 i v (rn_le_at h hi)⟩ hS hp h1 h2
theorem rn_room {ca' sa' : Nat} (h1 : ca' ≤ ca) (h2 : sa' ≤ sa) (k : Rn Z M pc ls st w ca' sa' K) : Rn Z M pc ls st w ca sa K := by
  intro p e s m args below meth c H locs cells slots mc ms A ad0 ad ws tys la sta hC hW hL hS hp g1 g2
  exact k hC hW hL hS hp (by omega) (by omega)
theorem rn_iconst {n : Int} {v : Int32} (hd : decode M.2.1 pc = .ok (.iconst n, 1)) (hv : Int32.ofInt n = v) (k : Rn Z M (pc + 1) ls (.int v :: st) w ca sa K) : Rn Z M pc ls st w ca sa K := by
  intro p e s m args below meth c H locs cells slots mc ms A ad0 ad ws tys la sta hC hW hL hS hp h1 h2
  exact lv_iconst hC.1 hC.2.1 hd hv (k hC hW hL ⟨_, _, rfl, rfl, hS⟩ hp h1 h2)
theorem rn_bipush {n : Int} {v : Int32} (hd : decode M.2.1 pc = .ok (.bipush n, 2)) (hv : (Int8.ofInt n).toInt32 = v) (k : Rn Z M (pc + 2) ls (.int v :: st) w ca sa K) : Rn Z M pc ls st w ca sa K := by
  intro p e s m args below meth c H locs cells slots mc ms A ad0 ad ws tys la sta hC hW hL hS hp h1 h2
  exact lv_bipush hC.1 hC.2.1 hd hv (k hC hW hL ⟨_, _, rfl, rfl, hS⟩ hp h1 h2)
theorem rn_sipush {n : Int} {v : Int32} (hd : decode M.2.1 pc = .ok (.sipush n, 3)) (hv : (Int16.ofInt n).toInt32 = v) (k : Rn Z M (pc + 3) ls (.int v :: st) w ca sa K) : Rn Z M pc ls st w ca sa K := by
  intro p e s m args below meth c H locs cells slots mc ms A ad0 ad ws tys la sta hC hW hL hS hp h1 h2
  exact lv_sipush hC.1 hC.2.1 hd hv (k hC hW hL ⟨_, _, rfl, rfl, hS⟩ hp h1 h2)
theorem rn_lconst {n : Fin 2} {v : Int64} (hd : decode M.2.1 pc = .ok (.lconst n, 1)) (hv : Int64.ofNat (n : Nat) = v) (k : Rn Z M (pc + 1) ls (.long v :: st) w ca sa K) : Rn Z M pc ls st w ca sa K := by
  intro p e s m args below meth c H locs cells slots mc ms A ad0 ad ws tys la sta hC hW hL hS hp h1 h2
  exact lv_lconst hC.1 hC.2.1 hd hv (k hC hW hL ⟨_, _, rfl, rfl, hS⟩ hp h1 h2)
theorem rn_ldc2 {idx : Nat} {v : Int64} (hd : decode M.2.1 pc = .ok (.ldc2_w idx, 3)) (hv : Cond.constantLong M.1.cls idx v ∈ rn_tb) (k : Rn Z M (pc + 3) ls (.long v :: st) w ca sa K) : Rn Z M pc ls st w ca sa K := by
  intro p e s m args below meth c H locs cells slots mc ms A ad0 ad ws tys la sta hC hW hL hS hp h1 h2
  exact lv_ldc2 hC.1 hC.2.1 hC.2.2.2.1 (hC.2.2.2.2.1 _ hv) hd (k hC hW hL ⟨_, _, rfl, rfl, hS⟩ hp h1 h2)
theorem rn_iload {i : Nat} {x : Int32} (hd : decode M.2.1 pc = .ok (.iload i, 2)) (hl : ls[i]? = some (some (.int x))) (k : Rn Z M (pc + 2) ls (.int x :: st) w ca sa K) : Rn Z M pc ls st w ca sa K := by
  intro p e s m args below meth c H locs cells slots mc ms A ad0 ad ws tys la sta hC hW hL hS hp h1 h2
  obtain ⟨u, rfl, hu⟩ := hL.2.2 _ _ hl
  exact lv_iload hC.1 hC.2.1 hd hu (k hC hW hL ⟨_, _, rfl, rfl, hS⟩ hp h1 h2)
theorem rn_iload_n {i : Fin 4} {x : Int32} (hd : decode M.2.1 pc = .ok (.iload_n i, 1)) (hl : ls[(i : Nat)]? = some (some (.int x))) (k : Rn Z M (pc + 1) ls (.int x :: st) w ca sa K) : Rn Z M pc ls st w ca sa K := by
  intro p e s m args below meth c H locs cells slots mc ms A ad0 ad ws tys la sta hC hW hL hS hp h1 h2
  obtain ⟨u, rfl, hu⟩ := hL.2.2 _ _ hl
  exact lv_iload_n hC.1 hC.2.1 hd rfl hu (k hC hW hL ⟨_, _, rfl, rfl, hS⟩ hp h1 h2)
theorem rn_lload {i : Nat} {x : Int64} (hd : decode M.2.1 pc = .ok (.lload i, 2)) (hl : ls[i]? = some (some (.long x))) (k : Rn Z M (pc + 2) ls (.long x :: st) w ca sa K) : Rn Z M pc ls st w ca sa K := by
  intro p e s m args below meth c H locs cells slots mc ms A ad0 ad ws tys la sta hC hW hL hS hp h1 h2
  obtain ⟨u, rfl, hu⟩ := hL.2.2 _ _ hl
  exact lv_lload hC.1 hC.2.1 hd hu (k hC hW hL ⟨_, _, rfl, rfl, hS⟩ hp h1 h2)
theorem rn_lload_n {i : Fin 4} {x : Int64} (hd : decode M.2.1 pc = .ok (.lload_n i, 1)) (hl : ls[(i : Nat)]? = some (some (.long x))) (k : Rn Z M (pc + 1) ls (.long x :: st) w ca sa K) : Rn Z M pc ls st w ca sa K := by
  intro p e s m args below meth c H locs cells slots mc ms A ad0 ad ws tys la sta hC hW hL hS hp h1 h2
  obtain ⟨u, rfl, hu⟩ := hL.2.2 _ _ hl
  exact lv_lload_n hC.1 hC.2.1 hd rfl hu (k hC hW hL ⟨_, _, rfl, rfl, hS⟩ hp h1 h2)
theorem rn_aload {i : Nat} {x : Nat} (hd : decode M.2.1 pc = .ok (.aload i, 2)) (hl : ls[i]? = some (some (.ref x))) (k : Rn Z M (pc + 2) ls (.ref x :: st) w ca sa K) : Rn Z M pc ls st w ca sa K := by
  intro p e s m args below meth c H locs cells slots mc ms A ad0 ad ws tys la sta hC hW hL hS hp h1 h2
  obtain ⟨u, ⟨a, ha, rfl⟩, hu⟩ := hL.2.2 _ _ hl
  exact lv_aload hC.1 hC.2.1 hd hu (k hC hW hL ⟨_, _, rfl, ⟨a, ha, rfl⟩, hS⟩ hp h1 h2)
theorem rn_aload_n {i : Fin 4} {x : Nat} (hd : decode M.2.1 pc = .ok (.aload_n i, 1)) (hl : ls[(i : Nat)]? = some (some (.ref x))) (k : Rn Z M (pc + 1) ls (.ref x :: st) w ca sa K) : Rn Z M pc ls st w ca sa K := by
  intro p e s m args below meth c H locs cells slots mc ms A ad0 ad ws tys la sta hC hW hL hS hp h1 h2
  obtain ⟨u, ⟨a, ha, rfl⟩, hu⟩ := hL.2.2 _ _ hl
  exact lv_aload_n hC.1 hC.2.1 hd rfl hu (k hC hW hL ⟨_, _, rfl, ⟨a, ha, rfl⟩, hS⟩ hp h1 h2)
theorem rn_istore {i : Nat} {x : Int32} {ls' : List (Option Value)} (hd : decode M.2.1 pc = .ok (.istore i, 2)) (hi : i < M.2.2.1) (hl : rn_s1 ls i (.int x) = ls') (k : Rn Z M (pc + 2) ls' st w ca sa K) : Rn Z M pc ls (.int x :: st) w ca sa K := by
  intro p e s m args below meth c H locs cells slots mc ms A ad0 ad ws tys la sta hC hW hL hS hp h1 h2
  obtain ⟨_, _, rfl, rfl, hS⟩ := hS
  subst hl
  exact lv_istore hC.1 hC.2.1 hd (rn_av_has hL.1 hL.2.1) hi rfl (fun la1 h3 => k hC hW (rn_L1 hL rfl h3) hS hp h1 h2)
theorem rn_lstore {i : Nat} {x : Int64} {ls' : List (Option Value)} (hd : decode M.2.1 pc = .ok (.lstore i, 2)) (hi : i + 1 < M.2.2.1) (hl : rn_s2 ls i (.long x) = ls') (k : Rn Z M (pc + 2) ls' st w ca sa K) : Rn Z M pc ls (.long x :: st) w ca sa K := by
  intro p e s m args below meth c H locs cells slots mc ms A ad0 ad ws tys la sta hC hW hL hS hp h1 h2
  obtain ⟨_, _, rfl, rfl, hS⟩ := hS
  subst hl
  exact lv_lstore hC.1 hC.2.1 hd (rn_av_has hL.1 hL.2.1) hi rfl (fun la1 h3 => k hC hW (rn_L2 hL rfl h3) hS hp h1 h2)
theorem rn_astore {i : Nat} {x : Nat} {ls' : List (Option Value)} (hd : decode M.2.1 pc = .ok (.astore i, 2)) (hi : i < M.2.2.1) (hl : rn_s1 ls i (.ref x) = ls') (k : Rn Z M (pc + 2) ls' st w ca sa K) : Rn Z M pc ls (.ref x :: st) w ca sa K := by
  intro p e s m args below meth c H locs cells slots mc ms A ad0 ad ws tys la sta hC hW hL hS hp h1 h2
  obtain ⟨_, _, rfl, ⟨a, ha, rfl⟩, hS⟩ := hS
  subst hl
  exact lv_astore hC.1 hC.2.1 hd (rn_av_has hL.1 hL.2.1) hi rfl (fun la1 h3 => k hC hW (rn_L1 hL ⟨a, ha, rfl⟩ h3) hS hp h1 h2)
theorem rn_istore_n {i : Fin 4} {x : Int32} {ls' : List (Option Value)} (hd : decode M.2.1 pc = .ok (.istore_n i, 1)) (hi : (i : Nat) < M.2.2.1) (hl : rn_s1 ls (i : Nat) (.int x) = ls') (k : Rn Z M (pc + 1) ls' st w ca sa K) : Rn Z M pc ls (.int x :: st) w ca sa K := by
  intro p e s m args below meth c H locs cells slots mc ms A ad0 ad ws tys la sta hC hW hL hS hp h1 h2
  obtain ⟨_, _, rfl, rfl, hS⟩ := hS
  subst hl
  exact lv_istore_n hC.1 hC.2.1 hd rfl (rn_av_has hL.1 hL.2.1) hi rfl (fun la1 h3 => k hC hW (rn_L1 hL rfl h3) hS hp h1 h2)
theorem rn_lstore_n {i : Fin 4} {x : Int64} {ls' : List (Option Value)} (hd : decode M.2.1 pc = .ok (.lstore_n i, 1)) (hi : (i : Nat) + 1 < M.2.2.1) (hl : rn_s2 ls (i : Nat) (.long x) = ls') (k : Rn Z M (pc + 1) ls' st w ca sa K) : Rn Z M pc ls (.long x :: st) w ca sa K := by
  intro p e s m args below meth c H locs cells slots mc ms A ad0 ad ws tys la sta hC hW hL hS hp h1 h2
  obtain ⟨_, _, rfl, rfl, hS⟩ := hS
  subst hl
  exact lv_lstore_n hC.1 hC.2.1 hd rfl (rn_av_has hL.1 hL.2.1) hi rfl (fun la1 h3 => k hC hW (rn_L2 hL rfl h3) hS hp h1 h2)
theorem rn_astore_n {i : Fin 4} {x : Nat} {ls' : List (Option Value)} (hd : decode M.2.1 pc = .ok (.astore_n i, 1)) (hi : (i : Nat) < M.2.2.1) (hl : rn_s1 ls (i : Nat) (.ref x) = ls') (k : Rn Z M (pc + 1) ls' st w ca sa K) : Rn Z M pc ls (.ref x :: st) w ca sa K := by
  intro p e s m args below meth c H locs cells slots mc ms A ad0 ad ws tys la sta hC hW hL hS hp h1 h2
  obtain ⟨_, _, rfl, ⟨a, ha, rfl⟩, hS⟩ := hS
  subst hl
  exact lv_astore_n hC.1 hC.2.1 hd rfl (rn_av_has hL.1 hL.2.1) hi rfl (fun la1 h3 => k hC hW (rn_L1 hL ⟨a, ha, rfl⟩ h3) hS hp h1 h2)
theorem rn_iinc {i : Nat} {n : Int} {x v : Int32} {ls' : List (Option Value)} (hd : decode M.2.1 pc = .ok (.iinc i n, 3)) (hi : i < M.2.2.1) (hx : ls[i]? = some (some (.int x))) (hv : x + Int32.ofInt n = v) (hl : rn_s1 ls i (.int v) = ls') (k : Rn Z M (pc + 3) ls' st w ca sa K) : Rn Z M pc ls st w ca sa K := by
  intro p e s m args below meth c H locs cells slots mc ms A ad0 ad ws tys la sta hC hW hL hS hp h1 h2
  obtain ⟨u, rfl, hu⟩ := hL.2.2 _ _ hx
  subst hl
  obtain ⟨k0, hk0⟩ := List.getElem?_of_mem (rn_av_in hL.1 hu)
  exact lv_iinc hC.1 hC.2.1 hd (rn_av_has hL.1 hL.2.1) hk0 hv hi rfl (fun la1 h3 => k hC hW (rn_L1 hL rfl h3) hS hp h1 h2)
theorem rn_iadd {x : Int32} {y : Int32} (hd : decode M.2.1 pc = .ok (.iadd, 1)) (k : Rn Z M (pc + 1) ls (.int (x + y) :: st) w ca sa K) : Rn Z M pc ls (.int y :: .int x :: st) w ca sa K := by
  intro p e s m args below meth c H locs cells slots mc ms A ad0 ad ws tys la sta hC hW hL hS hp h1 h2
  obtain ⟨_, _, rfl, rfl, _, _, rfl, rfl, hS⟩ := hS
  exact lv_iadd hC.1 hC.2.1 hd (k hC hW hL ⟨_, _, rfl, rfl, hS⟩ hp h1 h2)
theorem rn_isub {x : Int32} {y : Int32} (hd : decode M.2.1 pc = .ok (.isub, 1)) (k : Rn Z M (pc + 1) ls (.int (x - y) :: st) w ca sa K) : Rn Z M pc ls (.int y :: .int x :: st) w ca sa K := by
  intro p e s m args below meth c H locs cells slots mc ms A ad0 ad ws tys la sta hC hW hL hS hp h1 h2
  obtain ⟨_, _, rfl, rfl, _, _, rfl, rfl, hS⟩ := hS
  exact lv_isub hC.1 hC.2.1 hd (k hC hW hL ⟨_, _, rfl, rfl, hS⟩ hp h1 h2)
theorem rn_imul {x : Int32} {y : Int32} (hd : decode M.2.1 pc = .ok (.imul, 1)) (k : Rn Z M (pc + 1) ls (.int (x * y) :: st) w ca sa K) : Rn Z M pc ls (.int y :: .int x :: st) w ca sa K := by
  intro p e s m args below meth c H locs cells slots mc ms A ad0 ad ws tys la sta hC hW hL hS hp h1 h2
  obtain ⟨_, _, rfl, rfl, _, _, rfl, rfl, hS⟩ := hS
  exact lv_imul hC.1 hC.2.1 hd (k hC hW hL ⟨_, _, rfl, rfl, hS⟩ hp h1 h2)
theorem rn_iand {x : Int32} {y : Int32} (hd : decode M.2.1 pc = .ok (.iand, 1)) (k : Rn Z M (pc + 1) ls (.int (x &&& y) :: st) w ca sa K) : Rn Z M pc ls (.int y :: .int x :: st) w ca sa K := by
  intro p e s m args below meth c H locs cells slots mc ms A ad0 ad ws tys la sta hC hW hL hS hp h1 h2
  obtain ⟨_, _, rfl, rfl, _, _, rfl, rfl, hS⟩ := hS
  exact lv_iand hC.1 hC.2.1 hd (k hC hW hL ⟨_, _, rfl, rfl, hS⟩ hp h1 h2)
theorem rn_ior {x : Int32} {y : Int32} (hd : decode M.2.1 pc = .ok (.ior, 1)) (k : Rn Z M (pc + 1) ls (.int (x ||| y) :: st) w ca sa K) : Rn Z M pc ls (.int y :: .int x :: st) w ca sa K := by
  intro p e s m args below meth c H locs cells slots mc ms A ad0 ad ws tys la sta hC hW hL hS hp h1 h2
  obtain ⟨_, _, rfl, rfl, _, _, rfl, rfl, hS⟩ := hS
  exact lv_ior hC.1 hC.2.1 hd (k hC hW hL ⟨_, _, rfl, rfl, hS⟩ hp h1 h2)
theorem rn_ishl {x : Int32} {y : Int32} (hd : decode M.2.1 pc = .ok (.ishl, 1)) (k : Rn Z M (pc + 1) ls (.int (x <<< (y &&& 31)) :: st) w ca sa K) : Rn Z M pc ls (.int y :: .int x :: st) w ca sa K := by
  intro p e s m args below meth c H locs cells slots mc ms A ad0 ad ws tys la sta hC hW hL hS hp h1 h2
  obtain ⟨_, _, rfl, rfl, _, _, rfl, rfl, hS⟩ := hS
  exact lv_ishl hC.1 hC.2.1 hd (k hC hW hL ⟨_, _, rfl, rfl, hS⟩ hp h1 h2)
theorem rn_ishr {x : Int32} {y : Int32} (hd : decode M.2.1 pc = .ok (.ishr, 1)) (k : Rn Z M (pc + 1) ls (.int (x >>> (y &&& 31)) :: st) w ca sa K) : Rn Z M pc ls (.int y :: .int x :: st) w ca sa K := by
  intro p e s m args below meth c H locs cells slots mc ms A ad0 ad ws tys la sta hC hW hL hS hp h1 h2
  obtain ⟨_, _, rfl, rfl, _, _, rfl, rfl, hS⟩ := hS
  exact lv_ishr hC.1 hC.2.1 hd (k hC hW hL ⟨_, _, rfl, rfl, hS⟩ hp h1 h2)
theorem rn_irem {x : Int32} {y : Int32} (hd : decode M.2.1 pc = .ok (.irem, 1)) (hne : ¬ y = 0) (k : Rn Z M (pc + 1) ls (.int (x - x / y * y) :: st) w ca sa K) : Rn Z M pc ls (.int y :: .int x :: st) w ca sa K := by
  intro p e s m args below meth c H locs cells slots mc ms A ad0 ad ws tys la sta hC hW hL hS hp h1 h2
  obtain ⟨_, _, rfl, rfl, _, _, rfl, rfl, hS⟩ := hS
  exact lv_irem hC.1 hC.2.1 hd hne (k hC hW hL ⟨_, _, rfl, rfl, hS⟩ hp h1 h2)
theorem rn_ladd {x : Int64} {y : Int64} (hd : decode M.2.1 pc = .ok (.ladd, 1)) (k : Rn Z M (pc + 1) ls (.long (x + y) :: st) w ca sa K) : Rn Z M pc ls (.long y :: .long x :: st) w ca sa K := by
  intro p e s m args below meth c H locs cells slots mc ms A ad0 ad ws tys la sta hC hW hL hS hp h1 h2
  obtain ⟨_, _, rfl, rfl, _, _, rfl, rfl, hS⟩ := hS
  exact lv_ladd hC.1 hC.2.1 hd (k hC hW hL ⟨_, _, rfl, rfl, hS⟩ hp h1 h2)
theorem rn_lsub {x : Int64} {y : Int64} (hd : decode M.2.1 pc = .ok (.lsub, 1)) (k : Rn Z M (pc + 1) ls (.long (x - y) :: st) w ca sa K) : Rn Z M pc ls (.long y :: .long x :: st) w ca sa K := by
  intro p e s m args below meth c H locs cells slots mc ms A ad0 ad ws tys la sta hC hW hL hS hp h1 h2
  obtain ⟨_, _, rfl, rfl, _, _, rfl, rfl, hS⟩ := hS
  exact lv_lsub hC.1 hC.2.1 hd (k hC hW hL ⟨_, _, rfl, rfl, hS⟩ hp h1 h2)
theorem rn_lmul {x : Int64} {y : Int64} (hd : decode M.2.1 pc = .ok (.lmul, 1)) (k : Rn Z M (pc + 1) ls (.long (x * y) :: st) w ca sa K) : Rn Z M pc ls (.long y :: .long x :: st) w ca sa K := by
  intro p e s m args below meth c H locs cells slots mc ms A ad0 ad ws tys la sta hC hW hL hS hp h1 h2
  obtain ⟨_, _, rfl, rfl, _, _, rfl, rfl, hS⟩ := hS
  exact lv_lmul hC.1 hC.2.1 hd (k hC hW hL ⟨_, _, rfl, rfl, hS⟩ hp h1 h2)
theorem rn_land {x : Int64} {y : Int64} (hd : decode M.2.1 pc = .ok (.land, 1)) (k : Rn Z M (pc + 1) ls (.long (x &&& y) :: st) w ca sa K) : Rn Z M pc ls (.long y :: .long x :: st) w ca sa K := by
  intro p e s m args below meth c H locs cells slots mc ms A ad0 ad ws tys la sta hC hW hL hS hp h1 h2
  obtain ⟨_, _, rfl, rfl, _, _, rfl, rfl, hS⟩ := hS
  exact lv_land hC.1 hC.2.1 hd (k hC hW hL ⟨_, _, rfl, rfl, hS⟩ hp h1 h2)
theorem rn_lor {x : Int64} {y : Int64} (hd : decode M.2.1 pc = .ok (.lor, 1)) (k : Rn Z M (pc + 1) ls (.long (x ||| y) :: st) w ca sa K) : Rn Z M pc ls (.long y :: .long x :: st) w ca sa K := by
  intro p e s m args below meth c H locs cells slots mc ms A ad0 ad ws tys la sta hC hW hL hS hp h1 h2
  obtain ⟨_, _, rfl, rfl, _, _, rfl, rfl, hS⟩ := hS
  exact lv_lor hC.1 hC.2.1 hd (k hC hW hL ⟨_, _, rfl, rfl, hS⟩ hp h1 h2)
theorem rn_iushr {x : Int32} {y : Int32} (hd : decode M.2.1 pc = .ok (.iushr, 1)) (k : Rn Z M (pc + 1) ls (.int ((x.toUInt32 >>> (y.toUInt32 &&& Int32.toUInt32 31)).toInt32) :: st) w ca sa K) : Rn Z M pc ls (.int y :: .int x :: st) w ca sa K := by
  intro p e s m args below meth c H locs cells slots mc ms A ad0 ad ws tys la sta hC hW hL hS hp h1 h2
  obtain ⟨_, _, rfl, rfl, _, _, rfl, rfl, hS⟩ := hS
  exact lv_iushr hC.1 hC.2.1 hd rfl (k hC hW hL ⟨_, _, rfl, rfl, hS⟩ hp h1 h2)
theorem rn_lushr {x : Int64} {y : Int32} (hd : decode M.2.1 pc = .ok (.lushr, 1)) (k : Rn Z M (pc + 1) ls (.long ((x.toUInt64 >>> (y.toInt64.toUInt64 &&& Int64.toUInt64 63)).toInt64) :: st) w ca sa K) : Rn Z M pc ls (.int y :: .long x :: st) w ca sa K := by
  intro p e s m args below meth c H locs cells slots mc ms A ad0 ad ws tys la sta hC hW hL hS hp h1 h2
  obtain ⟨_, _, rfl, rfl, _, _, rfl, rfl, hS⟩ := hS
  exact lv_lushr hC.1 hC.2.1 hd rfl (k hC hW hL ⟨_, _, rfl, rfl, hS⟩ hp h1 h2)
theorem rn_lshl {x : Int64} {y : Int32} (hd : decode M.2.1 pc = .ok (.lshl, 1)) (k : Rn Z M (pc + 1) ls (.long (x <<< (y.toInt64 &&& 63)) :: st) w ca sa K) : Rn Z M pc ls (.int y :: .long x :: st) w ca sa K := by
  intro p e s m args below meth c H locs cells slots mc ms A ad0 ad ws tys la sta hC hW hL hS hp h1 h2
  obtain ⟨_, _, rfl, rfl, _, _, rfl, rfl, hS⟩ := hS
  exact lv_lshl hC.1 hC.2.1 hd rfl (k hC hW hL ⟨_, _, rfl, rfl, hS⟩ hp h1 h2)
theorem rn_lshr {x : Int64} {y : Int32} (hd : decode M.2.1 pc = .ok (.lshr, 1)) (k : Rn Z M (pc + 1) ls (.long (x >>> (y.toInt64 &&& 63)) :: st) w ca sa K) : Rn Z M pc ls (.int y :: .long x :: st) w ca sa K := by
  intro p e s m args below meth c H locs cells slots mc ms A ad0 ad ws tys la sta hC hW hL hS hp h1 h2
  obtain ⟨_, _, rfl, rfl, _, _, rfl, rfl, hS⟩ := hS
  exact lv_lshr hC.1 hC.2.1 hd rfl (k hC hW hL ⟨_, _, rfl, rfl, hS⟩ hp h1 h2)
theorem rn_lcmp {x y : Int64} (hd : decode M.2.1 pc = .ok (.lcmp, 1)) (k : Rn Z M (pc + 1) ls (.int (lg_cmp x y) :: st) w ca sa K) : Rn Z M pc ls (.long y :: .long x :: st) w ca sa K := by
  intro p e s m args below meth c H locs cells slots mc ms A ad0 ad ws tys la sta hC hW hL hS hp h1 h2
  obtain ⟨_, _, rfl, rfl, _, _, rfl, rfl, hS⟩ := hS
  exact W.lcmp hC.1 hC.2.1 hd (k hC hW hL ⟨_, _, rfl, rfl, hS⟩ hp h1 h2)
theorem rn_i2l {x : Int32} (hd : decode M.2.1 pc = .ok (.i2l, 1)) (k : Rn Z M (pc + 1) ls (.long (x.toInt64) :: st) w ca sa K) : Rn Z M pc ls (.int x :: st) w ca sa K := by
  intro p e s m args below meth c H locs cells slots mc ms A ad0 ad ws tys la sta hC hW hL hS hp h1 h2
  obtain ⟨_, _, rfl, rfl, hS⟩ := hS
  exact lv_i2l hC.1 hC.2.1 hd rfl (k hC hW hL ⟨_, _, rfl, rfl, hS⟩ hp h1 h2)
theorem rn_l2i {x : Int64} (hd : decode M.2.1 pc = .ok (.l2i, 1)) (k : Rn Z M (pc + 1) ls (.int (x.toInt32) :: st) w ca sa K) : Rn Z M pc ls (.long x :: st) w ca sa K := by
  intro p e s m args below meth c H locs cells slots mc ms A ad0 ad ws tys la sta hC hW hL hS hp h1 h2
  obtain ⟨_, _, rfl, rfl, hS⟩ := hS
  exact lv_l2i hC.1 hC.2.1 hd rfl (k hC hW hL ⟨_, _, rfl, rfl, hS⟩ hp h1 h2)
theorem rn_i2c {x : Int32} (hd : decode M.2.1 pc = .ok (.i2c, 1)) (k : Rn Z M (pc + 1) ls (.int ((x.toUInt32 % 65536).toInt32) :: st) w ca sa K) : Rn Z M pc ls (.int x :: st) w ca sa K := by
  intro p e s m args below meth c H locs cells slots mc ms A ad0 ad ws tys la sta hC hW hL hS hp h1 h2
  obtain ⟨_, _, rfl, rfl, hS⟩ := hS
  exact lv_i2c hC.1 hC.2.1 hd rfl (k hC hW hL ⟨_, _, rfl, rfl, hS⟩ hp h1 h2)
theorem rn_dup {v : Value} (hd : decode M.2.1 pc = .ok (.dup, 1)) (hv : v.category = 1) (k : Rn Z M (pc + 1) ls (v :: v :: st) w ca sa K) : Rn Z M pc ls (v :: st) w ca sa K := by
  intro p e s m args below meth c H locs cells slots mc ms A ad0 ad ws tys la sta hC hW hL hS hp h1 h2
  obtain ⟨u, us, rfl, hu, hS⟩ := hS
  exact lv_dup hC.1 hC.2.1 hd (by rw [rn_v_cat hu]; exact hv) (k hC hW hL ⟨_, _, rfl, hu, _, _, rfl, hu, hS⟩ hp h1 h2)
theorem rn_pop {v : Value} (hd : decode M.2.1 pc = .ok (.pop, 1)) (hv : v.category = 1) (k : Rn Z M (pc + 1) ls st w ca sa K) : Rn Z M pc ls (v :: st) w ca sa K := by
  intro p e s m args below meth c H locs cells slots mc ms A ad0 ad ws tys la sta hC hW hL hS hp h1 h2
  obtain ⟨u, us, rfl, hu, hS⟩ := hS
  exact lv_pop hC.1 hC.2.1 hd (by rw [rn_v_cat hu]; exact hv) (k hC hW hL hS hp h1 h2)
theorem rn_dup2 {v v2 : Value} (hd : decode M.2.1 pc = .ok (.dup2, 1)) (hv : v.category = 1) (hv2 : v2.category = 1) (k : Rn Z M (pc + 1) ls (v :: v2 :: v :: v2 :: st) w ca sa K) : Rn Z M pc ls (v :: v2 :: st) w ca sa K := by
  intro p e s m args below meth c H locs cells slots mc ms A ad0 ad ws tys la sta hC hW hL hS hp h1 h2
  obtain ⟨u, us, rfl, hu, u2, us2, rfl, hu2, hS⟩ := hS
  exact lv_dup2_11 hC.1 hC.2.1 hd (by rw [rn_v_cat hu]; exact hv) (by rw [rn_v_cat hu2]; exact hv2) (k hC hW hL ⟨_, _, rfl, hu, _, _, rfl, hu2, _, _, rfl, hu, _, _, rfl, hu2, hS⟩ hp h1 h2)
theorem rn_dup_x1 {v v2 : Value} (hd : decode M.2.1 pc = .ok (.dup_x1, 1)) (hv : v.category = 1) (hv2 : v2.category = 1) (k : Rn Z M (pc + 1) ls (v :: v2 :: v :: st) w ca sa K) : Rn Z M pc ls (v :: v2 :: st) w ca sa K := by
  intro p e s m args below meth c H locs cells slots mc ms A ad0 ad ws tys la sta hC hW hL hS hp h1 h2
  obtain ⟨u, us, rfl, hu, u2, us2, rfl, hu2, hS⟩ := hS
  exact lv_dup_x1 hC.1 hC.2.1 hd (by rw [rn_v_cat hu]; exact hv) (by rw [rn_v_cat hu2]; exact hv2) (k hC hW hL ⟨_, _, rfl, hu, _, _, rfl, hu2, _, _, rfl, hu, hS⟩ hp h1 h2)
theorem rn_if_eq_t {x : Int32} {off : Int} (tgt : Nat) (hd : decode M.2.1 pc = .ok (.ifCond .eq off, 3)) (ht : (pc : Int) + off = (tgt : Int)) (h : x = 0) (k : Rn Z M tgt ls st w ca sa K) : Rn Z M pc ls (.int x :: st) w ca sa K := by
  intro p e s m args below meth c H locs cells slots mc ms A ad0 ad ws tys la sta hC hW hL hS hp h1 h2
  obtain ⟨_, _, rfl, rfl, hS⟩ := hS
  exact lv_if_eq hC.1 hC.2.1 hd ht (fun _ => k hC hW hL hS hp h1 h2) (fun n => absurd h n)
theorem rn_if_eq_f {x : Int32} {off : Int} (tgt : Nat) (hd : decode M.2.1 pc = .ok (.ifCond .eq off, 3)) (ht : (pc : Int) + off = (tgt : Int)) (h : ¬ x = 0) (k : Rn Z M (pc + 3) ls st w ca sa K) : Rn Z M pc ls (.int x :: st) w ca sa K := by
  intro p e s m args below meth c H locs cells slots mc ms A ad0 ad ws tys la sta hC hW hL hS hp h1 h2
  obtain ⟨_, _, rfl, rfl, hS⟩ := hS
  exact lv_if_eq hC.1 hC.2.1 hd ht (fun n => absurd n h) (fun _ => k hC hW hL hS hp h1 h2)
theorem rn_icmp_eq_t {x y : Int32} {off : Int} (tgt : Nat) (hd : decode M.2.1 pc = .ok (.if_icmp .eq off, 3)) (ht : (pc : Int) + off = (tgt : Int)) (h : x = y) (k : Rn Z M tgt ls st w ca sa K) : Rn Z M pc ls (.int y :: .int x :: st) w ca sa K := by
  intro p e s m args below meth c H locs cells slots mc ms A ad0 ad ws tys la sta hC hW hL hS hp h1 h2
  obtain ⟨_, _, rfl, rfl, _, _, rfl, rfl, hS⟩ := hS
  exact lv_icmp_eq hC.1 hC.2.1 hd ht (fun _ => k hC hW hL hS hp h1 h2) (fun n => absurd h n)
theorem rn_icmp_eq_f {x y : Int32} {off : Int} (tgt : Nat) (hd : decode M.2.1 pc = .ok (.if_icmp .eq off, 3)) (ht : (pc : Int) + off = (tgt : Int)) (h : ¬ x = y) (k : Rn Z M (pc + 3) ls st w ca sa K) : Rn Z M pc ls (.int y :: .int x :: st) w ca sa K := by
  intro p e s m args below meth c H locs cells slots mc ms A ad0 ad ws tys la sta hC hW hL hS hp h1 h2
  obtain ⟨_, _, rfl, rfl, _, _, rfl, rfl, hS⟩ := hS
  exact lv_icmp_eq hC.1 hC.2.1 hd ht (fun n => absurd n h) (fun _ => k hC hW hL hS hp h1 h2)
theorem rn_if_ne_t {x : Int32} {off : Int} (tgt : Nat) (hd : decode M.2.1 pc = .ok (.ifCond .ne off, 3)) (ht : (pc : Int) + off = (tgt : Int)) (h : ¬ x = 0) (k : Rn Z M tgt ls st w ca sa K) : Rn Z M pc ls (.int x :: st) w ca sa K := by
  intro p e s m args below meth c H locs cells slots mc ms A ad0 ad ws tys la sta hC hW hL hS hp h1 h2
  obtain ⟨_, _, rfl, rfl, hS⟩ := hS
  exact lv_if_ne hC.1 hC.2.1 hd ht (fun _ => k hC hW hL hS hp h1 h2) (fun n => absurd n h)
theorem rn_if_ne_f {x : Int32} {off : Int} (tgt : Nat) (hd : decode M.2.1 pc = .ok (.ifCond .ne off, 3)) (ht : (pc : Int) + off = (tgt : Int)) (h : x = 0) (k : Rn Z M (pc + 3) ls st w ca sa K) : Rn Z M pc ls (.int x :: st) w ca sa K := by
  intro p e s m args below meth c H locs cells slots mc ms A ad0 ad ws tys la sta hC hW hL hS hp h1 h2
  obtain ⟨_, _, rfl, rfl, hS⟩ := hS
  exact lv_if_ne hC.1 hC.2.1 hd ht (fun n => absurd h n) (fun _ => k hC hW hL hS hp h1 h2)
theorem rn_icmp_ne_t {x y : Int32} {off : Int} (tgt : Nat) (hd : decode M.2.1 pc = .ok (.if_icmp .ne off, 3)) (ht : (pc : Int) + off = (tgt : Int)) (h : ¬ x = y) (k : Rn Z M tgt ls st w ca sa K) : Rn Z M pc ls (.int y :: .int x :: st) w ca sa K := by
  intro p e s m args below meth c H locs cells slots mc ms A ad0 ad ws tys la sta hC hW hL hS hp h1 h2
  obtain ⟨_, _, rfl, rfl, _, _, rfl, rfl, hS⟩ := hS
  exact lv_icmp_ne hC.1 hC.2.1 hd ht (fun _ => k hC hW hL hS hp h1 h2) (fun n => absurd n h)
theorem rn_icmp_ne_f {x y : Int32} {off : Int} (tgt : Nat) (hd : decode M.2.1 pc = .ok (.if_icmp .ne off, 3)) (ht : (pc : Int) + off = (tgt : Int)) (h : x = y) (k : Rn Z M (pc + 3) ls st w ca sa K) : Rn Z M pc ls (.int y :: .int x :: st) w ca sa K := by
  intro p e s m args below meth c H locs cells slots mc ms A ad0 ad ws tys la sta hC hW hL hS hp h1 h2
  obtain ⟨_, _, rfl, rfl, _, _, rfl, rfl, hS⟩ := hS
  exact lv_icmp_ne hC.1 hC.2.1 hd ht (fun n => absurd h n) (fun _ => k hC hW hL hS hp h1 h2)
theorem rn_if_lt_t {x : Int32} {off : Int} (tgt : Nat) (hd : decode M.2.1 pc = .ok (.ifCond .lt off, 3)) (ht : (pc : Int) + off = (tgt : Int)) (h : x < 0) (k : Rn Z M tgt ls st w ca sa K) : Rn Z M pc ls (.int x :: st) w ca sa K := by
  intro p e s m args below meth c H locs cells slots mc ms A ad0 ad ws tys la sta hC hW hL hS hp h1 h2
  obtain ⟨_, _, rfl, rfl, hS⟩ := hS
  exact lv_if_lt hC.1 hC.2.1 hd ht (fun _ => k hC hW hL hS hp h1 h2) (fun n => absurd h n)
theorem rn_if_lt_f {x : Int32} {off : Int} (tgt : Nat) (hd : decode M.2.1 pc = .ok (.ifCond .lt off, 3)) (ht : (pc : Int) + off = (tgt : Int)) (h : ¬ x < 0) (k : Rn Z M (pc + 3) ls st w ca sa K) : Rn Z M pc ls (.int x :: st) w ca sa K := by
  intro p e s m args below meth c H locs cells slots mc ms A ad0 ad ws tys la sta hC hW hL hS hp h1 h2
  obtain ⟨_, _, rfl, rfl, hS⟩ := hS
  exact lv_if_lt hC.1 hC.2.1 hd ht (fun n => absurd n h) (fun _ => k hC hW hL hS hp h1 h2)
theorem rn_icmp_lt_t {x y : Int32} {off : Int} (tgt : Nat) (hd : decode M.2.1 pc = .ok (.if_icmp .lt off, 3)) (ht : (pc : Int) + off = (tgt : Int)) (h : x < y) (k : Rn Z M tgt ls st w ca sa K) : Rn Z M pc ls (.int y :: .int x :: st) w ca sa K := by
  intro p e s m args below meth c H locs cells slots mc ms A ad0 ad ws tys la sta hC hW hL hS hp h1 h2
  obtain ⟨_, _, rfl, rfl, _, _, rfl, rfl, hS⟩ := hS
  exact lv_icmp_lt hC.1 hC.2.1 hd ht (fun _ => k hC hW hL hS hp h1 h2) (fun n => absurd h n)
theorem rn_icmp_lt_f {x y : Int32} {off : Int} (tgt : Nat) (hd : decode M.2.1 pc = .ok (.if_icmp .lt off, 3)) (ht : (pc : Int) + off = (tgt : Int)) (h : ¬ x < y) (k : Rn Z M (pc + 3) ls st w ca sa K) : Rn Z M pc ls (.int y :: .int x :: st) w ca sa K := by
  intro p e s m args below meth c H locs cells slots mc ms A ad0 ad ws tys la sta hC hW hL hS hp h1 h2
  obtain ⟨_, _, rfl, rfl, _, _, rfl, rfl, hS⟩ := hS
  exact lv_icmp_lt hC.1 hC.2.1 hd ht (fun n => absurd n h) (fun _ => k hC hW hL hS hp h1 h2)
theorem rn_if_ge_t {x : Int32} {off : Int} (tgt : Nat) (hd : decode M.2.1 pc = .ok (.ifCond .ge off, 3)) (ht : (pc : Int) + off = (tgt : Int)) (h : 0 ≤ x) (k : Rn Z M tgt ls st w ca sa K) : Rn Z M pc ls (.int x :: st) w ca sa K := by
  intro p e s m args below meth c H locs cells slots mc ms A ad0 ad ws tys la sta hC hW hL hS hp h1 h2
  obtain ⟨_, _, rfl, rfl, hS⟩ := hS
  exact lv_if_ge hC.1 hC.2.1 hd ht (fun _ => k hC hW hL hS hp h1 h2) (fun n => absurd h n)
theorem rn_if_ge_f {x : Int32} {off : Int} (tgt : Nat) (hd : decode M.2.1 pc = .ok (.ifCond .ge off, 3)) (ht : (pc : Int) + off = (tgt : Int)) (h : ¬ 0 ≤ x) (k : Rn Z M (pc + 3) ls st w ca sa K) : Rn Z M pc ls (.int x :: st) w ca sa K := by
  intro p e s m args below meth c H locs cells slots mc ms A ad0 ad ws tys la sta hC hW hL hS hp h1 h2
  obtain ⟨_, _, rfl, rfl, hS⟩ := hS
  exact lv_if_ge hC.1 hC.2.1 hd ht (fun n => absurd n h) (fun _ => k hC hW hL hS hp h1 h2)
theorem rn_icmp_ge_t {x y : Int32} {off : Int} (tgt : Nat) (hd : decode M.2.1 pc = .ok (.if_icmp .ge off, 3)) (ht : (pc : Int) + off = (tgt : Int)) (h : y ≤ x) (k : Rn Z M tgt ls st w ca sa K) : Rn Z M pc ls (.int y :: .int x :: st) w ca sa K := by
  intro p e s m args below meth c H locs cells slots mc ms A ad0 ad ws tys la sta hC hW hL hS hp h1 h2
  obtain ⟨_, _, rfl, rfl, _, _, rfl, rfl, hS⟩ := hS
  exact lv_icmp_ge hC.1 hC.2.1 hd ht (fun _ => k hC hW hL hS hp h1 h2) (fun n => absurd h n)
theorem rn_icmp_ge_f {x y : Int32} {off : Int} (tgt : Nat) (hd : decode M.2.1 pc = .ok (.if_icmp .ge off, 3)) (ht : (pc : Int) + off = (tgt : Int)) (h : ¬ y ≤ x) (k : Rn Z M (pc + 3) ls st w ca sa K) : Rn Z M pc ls (.int y :: .int x :: st) w ca sa K := by
  intro p e s m args below meth c H locs cells slots mc ms A ad0 ad ws tys la sta hC hW hL hS hp h1 h2
  obtain ⟨_, _, rfl, rfl, _, _, rfl, rfl, hS⟩ := hS
  exact lv_icmp_ge hC.1 hC.2.1 hd ht (fun n => absurd n h) (fun _ => k hC hW hL hS hp h1 h2)
theorem rn_if_gt_t {x : Int32} {off : Int} (tgt : Nat) (hd : decode M.2.1 pc = .ok (.ifCond .gt off, 3)) (ht : (pc : Int) + off = (tgt : Int)) (h : 0 < x) (k : Rn Z M tgt ls st w ca sa K) : Rn Z M pc ls (.int x :: st) w ca sa K := by
  intro p e s m args below meth c H locs cells slots mc ms A ad0 ad ws tys la sta hC hW hL hS hp h1 h2
  obtain ⟨_, _, rfl, rfl, hS⟩ := hS
  exact lv_if_gt hC.1 hC.2.1 hd ht (fun _ => k hC hW hL hS hp h1 h2) (fun n => absurd h n)
theorem rn_if_gt_f {x : Int32} {off : Int} (tgt : Nat) (hd : decode M.2.1 pc = .ok (.ifCond .gt off, 3)) (ht : (pc : Int) + off = (tgt : Int)) (h : ¬ 0 < x) (k : Rn Z M (pc + 3) ls st w ca sa K) : Rn Z M pc ls (.int x :: st) w ca sa K := by
  intro p e s m args below meth c H locs cells slots mc ms A ad0 ad ws tys la sta hC hW hL hS hp h1 h2
  obtain ⟨_, _, rfl, rfl, hS⟩ := hS
  exact lv_if_gt hC.1 hC.2.1 hd ht (fun n => absurd n h) (fun _ => k hC hW hL hS hp h1 h2)
theorem rn_icmp_gt_t {x y : Int32} {off : Int} (tgt : Nat) (hd : decode M.2.1 pc = .ok (.if_icmp .gt off, 3)) (ht : (pc : Int) + off = (tgt : Int)) (h : y < x) (k : Rn Z M tgt ls st w ca sa K) : Rn Z M pc ls (.int y :: .int x :: st) w ca sa K := by
  intro p e s m args below meth c H locs cells slots mc ms A ad0 ad ws tys la sta hC hW hL hS hp h1 h2
  obtain ⟨_, _, rfl, rfl, _, _, rfl, rfl, hS⟩ := hS
  exact lv_icmp_gt hC.1 hC.2.1 hd ht (fun _ => k hC hW hL hS hp h1 h2) (fun n => absurd h n)
theorem rn_icmp_gt_f {x y : Int32} {off : Int} (tgt : Nat) (hd : decode M.2.1 pc = .ok (.if_icmp .gt off, 3)) (ht : (pc : Int) + off = (tgt : Int)) (h : ¬ y < x) (k : Rn Z M (pc + 3) ls st w ca sa K) : Rn Z M pc ls (.int y :: .int x :: st) w ca sa K := by
  intro p e s m args below meth c H locs cells slots mc ms A ad0 ad ws tys la sta hC hW hL hS hp h1 h2
  obtain ⟨_, _, rfl, rfl, _, _, rfl, rfl, hS⟩ := hS
  exact lv_icmp_gt hC.1 hC.2.1 hd ht (fun n => absurd n h) (fun _ => k hC hW hL hS hp h1 h2)
theorem rn_if_le_t {x : Int32} {off : Int} (tgt : Nat) (hd : decode M.2.1 pc = .ok (.ifCond .le off, 3)) (ht : (pc : Int) + off = (tgt : Int)) (h : x ≤ 0) (k : Rn Z M tgt ls st w ca sa K) : Rn Z M pc ls (.int x :: st) w ca sa K := by
  intro p e s m args below meth c H locs cells slots mc ms A ad0 ad ws tys la sta hC hW hL hS hp h1 h2
  obtain ⟨_, _, rfl, rfl, hS⟩ := hS
  exact lv_if_le hC.1 hC.2.1 hd ht (fun _ => k hC hW hL hS hp h1 h2) (fun n => absurd h n)
theorem rn_if_le_f {x : Int32} {off : Int} (tgt : Nat) (hd : decode M.2.1 pc = .ok (.ifCond .le off, 3)) (ht : (pc : Int) + off = (tgt : Int)) (h : ¬ x ≤ 0) (k : Rn Z M (pc + 3) ls st w ca sa K) : Rn Z M pc ls (.int x :: st) w ca sa K := by
  intro p e s m args below meth c H locs cells slots mc ms A ad0 ad ws tys la sta hC hW hL hS hp h1 h2
  obtain ⟨_, _, rfl, rfl, hS⟩ := hS
  exact lv_if_le hC.1 hC.2.1 hd ht (fun n => absurd n h) (fun _ => k hC hW hL hS hp h1 h2)
theorem rn_icmp_le_t {x y : Int32} {off : Int} (tgt : Nat) (hd : decode M.2.1 pc = .ok (.if_icmp .le off, 3)) (ht : (pc : Int) + off = (tgt : Int)) (h : x ≤ y) (k : Rn Z M tgt ls st w ca sa K) : Rn Z M pc ls (.int y :: .int x :: st) w ca sa K := by
  intro p e s m args below meth c H locs cells slots mc ms A ad0 ad ws tys la sta hC hW hL hS hp h1 h2
  obtain ⟨_, _, rfl, rfl, _, _, rfl, rfl, hS⟩ := hS
  exact lv_icmp_le hC.1 hC.2.1 hd ht (fun _ => k hC hW hL hS hp h1 h2) (fun n => absurd h n)
theorem rn_icmp_le_f {x y : Int32} {off : Int} (tgt : Nat) (hd : decode M.2.1 pc = .ok (.if_icmp .le off, 3)) (ht : (pc : Int) + off = (tgt : Int)) (h : ¬ x ≤ y) (k : Rn Z M (pc + 3) ls st w ca sa K) : Rn Z M pc ls (.int y :: .int x :: st) w ca sa K := by
  intro p e s m args below meth c H locs cells slots mc ms A ad0 ad ws tys la sta hC hW hL hS hp h1 h2
  obtain ⟨_, _, rfl, rfl, _, _, rfl, rfl, hS⟩ := hS
  exact lv_icmp_le hC.1 hC.2.1 hd ht (fun n => absurd n h) (fun _ => k hC hW hL hS hp h1 h2)
theorem rn_goto {off : Int} (tgt : Nat) (hd : decode M.2.1 pc = .ok (.goto off, 3)) (ht : (pc : Int) + off = (tgt : Int)) (k : Rn Z M tgt ls st w ca sa K) : Rn Z M pc ls st w ca sa K := by
  intro p e s m args below meth c H locs cells slots mc ms A ad0 ad ws tys la sta hC hW hL hS hp h1 h2
  exact lv_goto hC.1 hC.2.1 hd ht (k hC hW hL hS hp h1 h2)
theorem rn_tabIn {dflt lo hi off : Int} {offs : Array Int} {len : Nat} {x : Int32} (tgt : Nat) (hd : decode M.2.1 pc = .ok (.tableswitch dflt lo hi offs, len)) (g1 : ¬ x.toInt < lo) (g2 : ¬ hi < x.toInt) (ho : offs[(x.toInt - lo).toNat]? = some off) (ht : (pc : Int) + off = (tgt : Int)) (k : Rn Z M tgt ls st w ca sa K) : Rn Z M pc ls (.int x :: st) w ca sa K := by
  intro p e s m args below meth c H locs cells slots mc ms A ad0 ad ws tys la sta hC hW hL hS hp h1 h2
  obtain ⟨_, _, rfl, rfl, hS⟩ := hS
  exact lv_tableIn hC.1 hC.2.1 hd g1 g2 ho ht (k hC hW hL hS hp h1 h2)
theorem rn_tabOut {dflt lo hi : Int} {offs : Array Int} {len : Nat} {x : Int32} (tgt : Nat) (hd : decode M.2.1 pc = .ok (.tableswitch dflt lo hi offs, len)) (g : x.toInt < lo ∨ hi < x.toInt) (ht : (pc : Int) + dflt = (tgt : Int)) (k : Rn Z M tgt ls st w ca sa K) : Rn Z M pc ls (.int x :: st) w ca sa K := by
  intro p e s m args below meth c H locs cells slots mc ms A ad0 ad ws tys la sta hC hW hL hS hp h1 h2
  obtain ⟨_, _, rfl, rfl, hS⟩ := hS
  exact lv_tableOut hC.1 hC.2.1 hd g ht (k hC hW hL hS hp h1 h2)
end
end
section
/-! The core, second part: fields, arrays, new cells, calls, ends. -/
def aG {α : Type} (f : Nat → α) (n : Nat) (i : Int32) : Option α := if i < 0 ∨ n ≤ i.toNatClampNeg then none else some (f i.toNatClampNeg)
def aS {α : Type} (f : Nat → α) (n : Nat) (i : Int32) (v : α) : Option (Nat → α) := if i < 0 ∨ n ≤ i.toNatClampNeg then none else some (fun j => if j = i.toNatClampNeg then v else f j)
/-- a place of an array of arrays -/
def aI (n : Nat) (i : Int32) : Option Nat := if i < 0 ∨ n ≤ i.toNatClampNeg then none else some i.toNatClampNeg
theorem aG_some {α : Type} {f : Nat → α} {n : Nat} {i : Int32} {x : α} (h : aG f n i = some x) : vp_in i n ∧ f i.toNatClampNeg = x := by
  unfold aG at h
  split at h
  next => cases h
  next hn => exact ⟨hn, Option.some.inj h⟩
theorem aS_some {α : Type} {f f1 : Nat → α} {n : Nat} {i : Int32} {v : α} (h : aS f n i v = some f1) : vp_in i n ∧ (fun j => if j = i.toNatClampNeg then v else f j) = f1 := by
  unfold aS at h
  split at h
  next => cases h
  next hn => exact ⟨hn, Option.some.inj h⟩
theorem aI_some {n : Nat} {i : Int32} {x : Nat} (h : aI n i = some x) : vp_in i n ∧ i.toNatClampNeg = x ∧ x < n := by
  unfold aI at h
  split at h
  next => cases h
  next hn => exact ⟨hn, Option.some.inj h, by rw [← Option.some.inj h]; exact Nat.not_le.mp fun q => hn (Or.inr q)⟩
/-- the least 16 bits, as a char array keeps them -/
def rn_ch (x : Int32) : Int32 := x.toUInt32.toUInt16.toUInt32.toInt32
def rn_fit : FieldType → Value → Bool
  | .int, .int _ => true
  | .long, .long _ => true
  | .boolean, .int x => (x == 0) || (x == 1)
  | .object _, .ref _ => true
  | .array _, .ref _ => true
  | _, _ => false
theorem rn_fit_ok {ad : List Nat} {ty : FieldType} {v u : Value} (h : rn_fit ty v = true) (hv : rn_v ad v u) : narrow ty u = u ∧ fits ty u = true := by
  cases v with
  | int x =>
    have hv : u = _ := hv
    subst hv
    cases ty <;> first | (simp [rn_fit] at h; done) | exact ⟨rfl, rfl⟩ | skip
    have h : ((x == 0) || (x == 1)) = true := h
    have h2 : x = 0 ∨ x = 1 := by simpa using h
    rcases h2 with rfl | rfl <;> exact ⟨rfl, rfl⟩
  | long x =>
    have hv : u = _ := hv
    subst hv
    cases ty <;> first | (simp [rn_fit] at h; done) | exact ⟨rfl, rfl⟩
  | ref i =>
    obtain ⟨a, -, rfl⟩ := hv
    cases ty <;> first | (simp [rn_fit] at h; done) | exact ⟨rfl, rfl⟩
  | null => cases ty <;> simp [rn_fit] at h
  | _ => exact hv.elim
def rn_Cl (ci : Nat) (C : String) (T : u_T) (N : Nat) (ty : Nat → FieldType) : Prop := rn_cl[ci]? = some (C, T, N) ∧ (∀ x ∈ u_ws C T N, x ∈ rn_tb) ∧ (∀ k, k < N → parseFieldDescriptor (T k).2.2.1 = some (ty k)) ∧ ∀ a, a < N → ∀ b, b < N → a ≠ b → (T a).2.1 ≠ (T b).2.1
def rn_Lk (own : String) (idx : Nat) (f : String × String × String × Bool) : Prop := Cond.fieldLink own idx f.1 f.2.1 f.2.2.1 ∈ rn_tb ∨ ∃ host, Cond.fieldLinkNest own idx f.1 f.2.1 f.2.2.1 host ∈ rn_tb
def rn_Fd (own : String) (idx ci k : Nat) (fin : Bool) (ty0 : FieldType) : Prop := ∃ (C : String) (T : u_T) (N : Nat) (ty : Nat → FieldType), rn_Cl ci C T N ty ∧ k < N ∧ rn_Lk own idx (T k) ∧ (T k).2.2.2 = fin ∧ ty k = ty0
def rn_Ff (own : String) (idx ci k : Nat) (ty0 : FieldType) : Prop := ∃ (C : String) (T : u_T) (N : Nat) (ty : Nat → FieldType), rn_Cl ci C T N ty ∧ k < N ∧ Cond.fieldLink own idx (T k).1 (T k).2.1 (T k).2.2.1 ∈ rn_tb ∧ (T k).2.2.2 = true ∧ ty k = ty0 ∧ (T k).1 = own
section
variable {Z : rn_Z} {M : rn_M} {pc : Nat} {ls : List (Option Value)} {st : List Value} {w w2 : List rn_C} {ca sa : Nat} {K : rn_K}
theorem rn_getf {idx ci k o : Nat} {fin : Bool} {ty0 : FieldType} {fs : List Value} {v : Value} (hf : rn_Fd M.1.cls idx ci k fin ty0) (hd : decode M.2.1 pc = .ok (.getfield idx, 3)) (ho : w[o]? = some (rn_o ci fs)) (hv : fs[k]? = some v) (kk : Rn Z M (pc + 3) ls (v :: st) w ca sa K) : Rn Z M pc ls (.ref o :: st) w ca sa K := by
  intro p e s m args below meth c H locs cells slots mc ms A ad0 ad ws tys la sta hC hW hL hS hp h1 h2
  obtain ⟨C, T, N, ty, ⟨c1, c2, c3, c4⟩, hk, hlk, -⟩ := hf
  obtain ⟨_, _, rfl, ⟨a, ha, rfl⟩, hS⟩ := hS
  obtain ⟨a', ha', k0, us, h0, hus⟩ := hW.1.2.2 _ _ ho
  cases ha.symm.trans ha'
  obtain ⟨u, hu, hvu⟩ := rn_vs_at hus hv
  have hin : ∀ x ∈ u_ws C T N, x ∈ rn_tb := c2
  rcases hlk with hlk | ⟨host, hlk⟩
  · exact va_get hC.1 hC.2.1 hC.2.2.2.2.1 hin hC.2.2.2.1 hW.2.2.1 hW.2.1 k0 h0 c1 k hk (hC.2.2.2.2.1 _ hlk) (fun _ q => q) hu hd (kk hC hW hL ⟨_, _, rfl, hvu, hS⟩ hp h1 h2)
  · exact va_getN hC.1 hC.2.1 hC.2.2.2.2.1 hin hC.2.2.2.1 hW.2.2.1 hW.2.1 k0 h0 c1 k hk (hC.2.2.2.2.1 _ hlk) (fun _ q => q) hu hd (kk hC hW hL ⟨_, _, rfl, hvu, hS⟩ hp h1 h2)
theorem rn_putf {idx ci k o : Nat} {ty0 : FieldType} {fs : List Value} {v : Value} (hf : rn_Fd M.1.cls idx ci k false ty0) (hd : decode M.2.1 pc = .ok (.putfield idx, 3)) (ho : w[o]? = some (rn_o ci fs)) (hfit : rn_fit ty0 v = true) (hkl : k < fs.length) (hw2 : w.set o (rn_o ci (fs.set k v)) = w2) (kk : Rn Z M (pc + 3) ls st w2 ca sa K) : Rn Z M pc ls (v :: .ref o :: st) w ca sa K := by
  intro p e s m args below meth c H locs cells slots mc ms A ad0 ad ws tys la sta hC hW hL hS hp h1 h2
  obtain ⟨C, T, N, ty, ⟨c1, c2, c3, c4⟩, hk, hlk, hfin, hty⟩ := hf
  obtain ⟨u, _, rfl, hvu, _, _, rfl, ⟨a, ha, rfl⟩, hS⟩ := hS
  obtain ⟨a', ha', k0, us, h0, hus⟩ := hW.1.2.2 _ _ ho
  cases ha.symm.trans ha'
  subst hw2
  obtain ⟨f1, f2⟩ := rn_fit_ok hfit hvu
  have hlen : k < us.length := by rw [rn_vs_len hus]; exact hkl
  have hpd : parseFieldDescriptor (T k).2.2.1 = some ty0 := by rw [c3 k hk, hty]
  have fin9 : ∀ (H1 : Heap) (locs1 : List Loc), va_P Z.2.1 rn_cl (ws.set k0 (a, .inr (ci, us.set k u))) H1 → va_D A (ws.set k0 (a, .inr (ci, us.set k u))) → va_S A s.heap H1 locs1 → W p Z.1 e (rn_R M mc ms) s m args below meth c H1 locs1 cells slots (K below args s mc ms A ad0) (F0 m (pc + 3) la _) :=
    fun H1 locs1 q1 q2 q3 => kk hC ⟨rn_w_set hW.1 ha h0 ⟨k0, us.set k u, List.getElem?_set_self (List.getElem?_eq_some_iff.mp h0).1, rn_vs_set hus hvu⟩, q1, hW.2.2.1, q2, q3⟩ hL hS hp h1 h2
  rcases hlk with hlk | ⟨host, hlk⟩
  · exact va_put hC.1 hC.2.1 hC.2.2.2.2.1 c2 ty c3 c4 hC.2.2.2.1 hW.2.2.1 hW.2.1 hW.2.2.2.1 hW.2.2.2.2 k0 h0 c1 k hk (hC.2.2.2.2.1 _ hlk) (fun _ q => q) hfin hpd f1 f2 hlen hd fin9
  · exact va_putN hC.1 hC.2.1 hC.2.2.2.2.1 c2 ty c3 c4 hC.2.2.2.1 hW.2.2.1 hW.2.1 hW.2.2.2.1 hW.2.2.2.2 k0 h0 c1 k hk (hC.2.2.2.2.1 _ hlk) (fun _ q => q) hfin hpd f1 f2 hlen hd fin9
/-- a final field, in a constructor -/
theorem rn_putF {idx ci k o : Nat} {ty0 : FieldType} {fs : List Value} {v : Value} (hf : rn_Ff M.1.cls idx ci k ty0) (hin2 : M.1.name = "<init>") (hd : decode M.2.1 pc = .ok (.putfield idx, 3)) (ho : w[o]? = some (rn_o ci fs)) (hfit : rn_fit ty0 v = true) (hkl : k < fs.length) (hw2 : w.set o (rn_o ci (fs.set k v)) = w2) (kk : Rn Z M (pc + 3) ls st w2 ca sa K) : Rn Z M pc ls (v :: .ref o :: st) w ca sa K := by
  intro p e s m args below meth c H locs cells slots mc ms A ad0 ad ws tys la sta hC hW hL hS hp h1 h2
  obtain ⟨C, T, N, ty, ⟨c1, c2, c3, c4⟩, hk, hlk, hfin, hty, hdc⟩ := hf
  obtain ⟨u, _, rfl, hvu, _, _, rfl, ⟨a, ha, rfl⟩, hS⟩ := hS
  obtain ⟨a', ha', k0, us, h0, hus⟩ := hW.1.2.2 _ _ ho
  cases ha.symm.trans ha'
  subst hw2
  obtain ⟨f1, f2⟩ := rn_fit_ok hfit hvu
  have hlen : k < us.length := by rw [rn_vs_len hus]; exact hkl
  have hpd : parseFieldDescriptor (T k).2.2.1 = some ty0 := by rw [c3 k hk, hty]
  exact va_putF hC.1 hC.2.1 hC.2.2.2.2.1 c2 ty c3 c4 hC.2.2.2.1 hW.2.2.1 hW.2.1 hW.2.2.2.1 hW.2.2.2.2 k0 h0 c1 k hk (hC.2.2.2.2.1 _ hlk) (fun _ q => q) hfin (hC.2.2.2.2.2.2.2.1.trans hin2) hdc hpd f1 f2 hlen hd
    (fun H1 locs1 q1 q2 q3 => kk hC ⟨rn_w_set hW.1 ha h0 ⟨k0, us.set k u, List.getElem?_set_self (List.getElem?_eq_some_iff.mp h0).1, rn_vs_set hus hvu⟩, q1, hW.2.2.1, q2, q3⟩ hL hS hp h1 h2)
theorem rn_iaload {o n : Nat} {f : Nat → Int32} {i : Int32} {x : Int32} (hd : decode M.2.1 pc = .ok (.iaload, 1)) (ho : w[o]? = some (rn_i .int n f)) (h : aG f n i = some x) (kk : Rn Z M (pc + 1) ls (.int x :: st) w ca sa K) : Rn Z M pc ls (.int i :: .ref o :: st) w ca sa K := by
  intro p e s m args below meth c H locs cells slots mc ms A ad0 ad ws tys la sta hC hW hL hS hp h1 h2
  obtain ⟨_, _, rfl, rfl, _, _, rfl, ⟨a, ha, rfl⟩, hS⟩ := hS
  obtain ⟨a', ha', k0, t0, cA, h0, ht⟩ := hW.1.2.2 _ _ ho
  cases ha.symm.trans ha'
  obtain ⟨hin, rfl⟩ := aG_some h
  exact va_iald hC.1 hC.2.1 hW.2.2.1 hW.2.1 k0 t0 h0 ht hin hd (kk hC hW hL ⟨_, _, rfl, rfl, hS⟩ hp h1 h2)
theorem rn_caload {o n : Nat} {f : Nat → Int32} {i : Int32} {x : Int32} (hd : decode M.2.1 pc = .ok (.caload, 1)) (ho : w[o]? = some (rn_i .char n f)) (h : aG f n i = some x) (kk : Rn Z M (pc + 1) ls (.int x :: st) w ca sa K) : Rn Z M pc ls (.int i :: .ref o :: st) w ca sa K := by
  intro p e s m args below meth c H locs cells slots mc ms A ad0 ad ws tys la sta hC hW hL hS hp h1 h2
  obtain ⟨_, _, rfl, rfl, _, _, rfl, ⟨a, ha, rfl⟩, hS⟩ := hS
  obtain ⟨a', ha', k0, t0, cA, h0, ht⟩ := hW.1.2.2 _ _ ho
  cases ha.symm.trans ha'
  obtain ⟨hin, rfl⟩ := aG_some h
  exact va_cald hC.1 hC.2.1 hW.2.2.1 hW.2.1 k0 t0 h0 ht hin hd (kk hC hW hL ⟨_, _, rfl, rfl, hS⟩ hp h1 h2)
theorem rn_laload {o n : Nat} {f : Nat → Int64} {i : Int32} {x : Int64} (hd : decode M.2.1 pc = .ok (.laload, 1)) (ho : w[o]? = some (rn_l n f)) (h : aG f n i = some x) (kk : Rn Z M (pc + 1) ls (.long x :: st) w ca sa K) : Rn Z M pc ls (.int i :: .ref o :: st) w ca sa K := by
  intro p e s m args below meth c H locs cells slots mc ms A ad0 ad ws tys la sta hC hW hL hS hp h1 h2
  obtain ⟨_, _, rfl, rfl, _, _, rfl, ⟨a, ha, rfl⟩, hS⟩ := hS
  obtain ⟨a', ha', k0, t0, cA, h0, ht⟩ := hW.1.2.2 _ _ ho
  cases ha.symm.trans ha'
  obtain ⟨hin, rfl⟩ := aG_some h
  exact va_lald hC.1 hC.2.1 hW.2.2.1 hW.2.1 k0 t0 h0 ht hin hd (kk hC hW hL ⟨_, _, rfl, rfl, hS⟩ hp h1 h2)
theorem rn_aaload {o y : Nat} {ty : FieldType} {l : List (Option Nat)} {i : Int32} (hd : decode M.2.1 pc = .ok (.aaload, 1)) (ho : w[o]? = some (rn_q ty l)) (hin : vp_in i l.length) (hy : l[i.toNatClampNeg]? = some (some y)) (kk : Rn Z M (pc + 1) ls (.ref y :: st) w ca sa K) : Rn Z M pc ls (.int i :: .ref o :: st) w ca sa K := by
  intro p e s m args below meth c H locs cells slots mc ms A ad0 ad ws tys la sta hC hW hL hS hp h1 h2
  obtain ⟨_, _, rfl, rfl, _, _, rfl, ⟨a, ha, rfl⟩, hS⟩ := hS
  obtain ⟨a', ha', k0, t0, cA, g, h0, ht, hrf, hg⟩ := hW.1.2.2 _ _ ho
  cases ha.symm.trans ha'
  obtain ⟨a2, ha2, hg2⟩ := hg _ _ hy
  have hlt : i.toNatClampNeg < l.length := Nat.not_le.mp fun q => hin (Or.inr q)
  exact W.aald (v := .ref a2) (ty := ty) hC.1 hC.2.1 (hW.2.1 k0 _ h0) ((hW.2.2.1.2 t0 _ ht).1 l.length (fun j => va_rf (g j))) hrf (fun q => by cases q) (by show ¬ (i < 0 ∨ (arrV _ _ _).slots.size ≤ _); rw [arrV_size]; exact hin) (by show (arrV _ _ _).slots[_]? = _; rw [arrV_read _ _ hlt, hg2]; rfl) rfl rfl hd (kk hC hW hL ⟨_, _, rfl, ⟨a2, ha2, rfl⟩, hS⟩ hp h1 h2)
theorem rn_sload {o : Nat} {i x : Int32} (hd : decode M.2.1 pc = .ok (.iaload, 1)) (ho : w[o]? = some rn_s) (h : aG Z.2.2.2.2 Z.2.2.2.1 i = some x) (kk : Rn Z M (pc + 1) ls (.int x :: st) w ca sa K) : Rn Z M pc ls (.int i :: .ref o :: st) w ca sa K := by
  intro p e s m args below meth c H locs cells slots mc ms A ad0 ad ws tys la sta hC hW hL hS hp h1 h2
  obtain ⟨_, _, rfl, rfl, _, _, rfl, ⟨a, ha, rfl⟩, hS⟩ := hS
  obtain ⟨a', ha', hb⟩ := hW.1.2.2 _ _ ho
  have hb : a' = _ := hb
  cases ha.symm.trans ha'
  subst hb
  obtain ⟨hin, rfl⟩ := aG_some h
  exact va_sld hC.1 hC.2.1 hC.2.2.2.2.2.2.2.2.2.1 hC.2.2.2.2.2.2.2.2.2.2.1 hC.2.2.2.2.2.2.2.2.2.2.2.1 hW.2.2.2.2 hin hd (kk hC hW hL ⟨_, _, rfl, rfl, hS⟩ hp h1 h2)
theorem rn_slen {o : Nat} (hd : decode M.2.1 pc = .ok (.arraylength, 1)) (ho : w[o]? = some rn_s) (kk : Rn Z M (pc + 1) ls (.int (Int32.ofNat Z.2.2.2.1) :: st) w ca sa K) : Rn Z M pc ls (.ref o :: st) w ca sa K := by
  intro p e s m args below meth c H locs cells slots mc ms A ad0 ad ws tys la sta hC hW hL hS hp h1 h2
  obtain ⟨_, _, rfl, ⟨a, ha, rfl⟩, hS⟩ := hS
  obtain ⟨a', ha', hb⟩ := hW.1.2.2 _ _ ho
  have hb : a' = _ := hb
  cases ha.symm.trans ha'
  subst hb
  exact va_slen hC.1 hC.2.1 hC.2.2.2.2.2.2.2.2.2.1 hC.2.2.2.2.2.2.2.2.2.2.1 hC.2.2.2.2.2.2.2.2.2.2.2.1 hW.2.2.2.2 hd (kk hC hW hL ⟨_, _, rfl, rfl, hS⟩ hp h1 h2)
theorem rn_iastore {o n : Nat} {f f1 : Nat → Int32} {i : Int32} {x : Int32} (hd : decode M.2.1 pc = .ok (.iastore, 1)) (ho : w[o]? = some (rn_i .int n f)) (h : aS f n i (x) = some f1) (hw2 : w.set o (rn_i .int n f1) = w2) (kk : Rn Z M (pc + 1) ls st w2 ca sa K) : Rn Z M pc ls (.int x :: .int i :: .ref o :: st) w ca sa K := by
  intro p e s m args below meth c H locs cells slots mc ms A ad0 ad ws tys la sta hC hW hL hS hp h1 h2
  obtain ⟨_, _, rfl, rfl, _, _, rfl, rfl, _, _, rfl, ⟨a, ha, rfl⟩, hS⟩ := hS
  obtain ⟨a', ha', k0, t0, cA, h0, ht⟩ := hW.1.2.2 _ _ ho
  cases ha.symm.trans ha'
  subst hw2
  obtain ⟨hin, hf1⟩ := aS_some h
  refine va_iast hC.1 hC.2.1 hW.2.2.1 hW.2.1 hW.2.2.2.1 hW.2.2.2.2 k0 t0 h0 ht hin hd (fun H1 locs1 q1 q2 q3 => ?_)
  subst hf1
  exact kk hC ⟨rn_w_set hW.1 ha h0 ⟨k0, t0, cA, List.getElem?_set_self (List.getElem?_eq_some_iff.mp h0).1, ht⟩, q1, hW.2.2.1, q2, q3⟩ hL hS hp h1 h2
theorem rn_castore {o n : Nat} {f f1 : Nat → Int32} {i : Int32} {x : Int32} (hd : decode M.2.1 pc = .ok (.castore, 1)) (ho : w[o]? = some (rn_i .char n f)) (h : aS f n i (rn_ch x) = some f1) (hw2 : w.set o (rn_i .char n f1) = w2) (kk : Rn Z M (pc + 1) ls st w2 ca sa K) : Rn Z M pc ls (.int x :: .int i :: .ref o :: st) w ca sa K := by
  intro p e s m args below meth c H locs cells slots mc ms A ad0 ad ws tys la sta hC hW hL hS hp h1 h2
  obtain ⟨_, _, rfl, rfl, _, _, rfl, rfl, _, _, rfl, ⟨a, ha, rfl⟩, hS⟩ := hS
  obtain ⟨a', ha', k0, t0, cA, h0, ht⟩ := hW.1.2.2 _ _ ho
  cases ha.symm.trans ha'
  subst hw2
  obtain ⟨hin, hf1⟩ := aS_some h
  refine va_cast hC.1 hC.2.1 hW.2.2.1 hW.2.1 hW.2.2.2.1 hW.2.2.2.2 k0 t0 h0 ht hin hd (fun H1 locs1 q1 q2 q3 => ?_)
  subst hf1
  exact kk hC ⟨rn_w_set hW.1 ha h0 ⟨k0, t0, cA, List.getElem?_set_self (List.getElem?_eq_some_iff.mp h0).1, ht⟩, q1, hW.2.2.1, q2, q3⟩ hL hS hp h1 h2
theorem rn_lastore {o n : Nat} {f f1 : Nat → Int64} {i : Int32} {x : Int64} (hd : decode M.2.1 pc = .ok (.lastore, 1)) (ho : w[o]? = some (rn_l n f)) (h : aS f n i (x) = some f1) (hw2 : w.set o (rn_l n f1) = w2) (kk : Rn Z M (pc + 1) ls st w2 ca sa K) : Rn Z M pc ls (.long x :: .int i :: .ref o :: st) w ca sa K := by
  intro p e s m args below meth c H locs cells slots mc ms A ad0 ad ws tys la sta hC hW hL hS hp h1 h2
  obtain ⟨_, _, rfl, rfl, _, _, rfl, rfl, _, _, rfl, ⟨a, ha, rfl⟩, hS⟩ := hS
  obtain ⟨a', ha', k0, t0, cA, h0, ht⟩ := hW.1.2.2 _ _ ho
  cases ha.symm.trans ha'
  subst hw2
  obtain ⟨hin, hf1⟩ := aS_some h
  refine va_last hC.1 hC.2.1 hW.2.2.1 hW.2.1 hW.2.2.2.1 hW.2.2.2.2 k0 t0 h0 ht hin hd (fun H1 locs1 q1 q2 q3 => ?_)
  subst hf1
  exact kk hC ⟨rn_w_set hW.1 ha h0 ⟨k0, t0, cA, List.getElem?_set_self (List.getElem?_eq_some_iff.mp h0).1, ht⟩, q1, hW.2.2.1, q2, q3⟩ hL hS hp h1 h2
theorem rn_last {α : Type} {l : List α} {x : α} : (l ++ [x])[l.length]? = some x := by
  rw [List.getElem?_append_right (Nat.le_refl _), Nat.sub_self]; rfl
theorem rn_addr {ad : List Nat} {b j a : Nat} {tys : List (ClassId × FieldType)} {ws : va_W} (hw : rn_w ad b tys w ws) (hj : ad[j]? = some a) : a = b ∨ ∃ (k : Nat) (x : va_E), ws[k]? = some (a, x) := by
  have hl : j < w.length := by rw [← hw.1]; exact (List.getElem?_eq_some_iff.mp hj).1
  obtain ⟨a', h1, h2⟩ := hw.2.2 j _ (List.getElem?_eq_getElem hl)
  cases hj.symm.trans h1
  revert h2
  generalize w[j] = cell
  intro h2
  match cell, h2 with
  | .inl (ty, n, f), ⟨k, t0, cA, g1, _⟩ => exact Or.inr ⟨k, _, g1⟩
  | .inr (.inl (n, f)), ⟨k, t0, cA, g1, _⟩ => exact Or.inr ⟨k, _, g1⟩
  | .inr (.inr (.inl (ty, l))), ⟨k, t0, cA, g, g1, _⟩ => exact Or.inr ⟨k, _, g1⟩
  | .inr (.inr (.inr (.inl (ci, fs)))), ⟨k, us, g1, _⟩ => exact Or.inr ⟨k, _, g1⟩
  | .inr (.inr (.inr (.inr _))), h => exact Or.inl h
/-- a new cell's address is none of the old ones -/
theorem rn_fresh {ad : List Nat} {b q : Nat} {tys : List (ClassId × FieldType)} {ws : va_W} {A : Nat → Prop} {e : va_E} (hw : rn_w ad b tys w ws) (hD : va_D A (ws ++ [(q, e)])) (hb : ¬ A b) : ∀ (j a : Nat), ad[j]? = some a → a ≠ q := by
  intro j a hj hqa
  subst hqa
  have hA : A a := hD.2 ws.length (a, e) rn_last
  rcases rn_addr hw hj with h | ⟨k, x, hk⟩
  · exact hb (h ▸ hA)
  · have h3 := hD.1 k ws.length (a, x) (a, e) (rn_gl hk) rn_last rfl
    have h4 := (List.getElem?_eq_some_iff.mp hk).1
    omega
def rn_Nw (own : String) (idx ci N : Nat) (fs : List Value) : Prop := ∃ (C : String) (T : u_T) (ty : Nat → FieldType), rn_Cl ci C T N ty ∧ Cond.classLink own idx C ∈ rn_tb ∧ Cond.instantiable C N ∈ rn_tb ∧ Cond.initialized C ∈ rn_tb ∧ (∀ j, j < N → defaultValue (ty j) = vp_V fs j) ∧ ∀ ad, rn_vs ad fs fs
theorem rn_new {idx ci N : Nat} {fs : List Value} (hf : rn_Nw M.1.cls idx ci N fs) (hd : decode M.2.1 pc = .ok (.new idx, 3)) (hw2 : w ++ [rn_o ci fs] = w2) (kk : Rn Z M (pc + 3) ls (.ref w.length :: st) w2 ca sa K) : Rn Z M pc ls st w (ca + 1) (sa + N) K := by
  intro p e s m args below meth c H locs cells slots mc ms A ad0 ad ws tys la sta hC hW hL hS hp h1 h2
  obtain ⟨C, T, ty, ⟨c1, c2, c3, c4⟩, w1, w2', w3, hdef, hfs⟩ := hf
  subst hw2
  refine va_new hC.1 hC.2.1 hC.2.2.2.2.1 c2 ty c3 hC.2.2.2.1 (hC.2.2.2.2.1 _ w1) (hC.2.2.2.2.1 _ w2') (hC.2.2.2.2.1 _ w3) hW.2.2.1 hW.2.1 hW.2.2.2.1 hW.2.2.2.2 hC.2.2.2.2.2.2.2.2.1 c1 hdef (show cells + 1 ≤ mc by omega) (show slots + N ≤ ms by omega) hd (fun q H1 q1 q2 q3 => ?_)
  have hq := rn_fresh hW.1 q2 hC.2.2.2.2.2.2.2.2.2.2.2.1
  have hlen : ad.length = w.length := hW.1.1
  have hpush := rn_w_push (t2 := []) (c1 := rn_o ci fs) (e1 := .inr (ci, fs)) hW.1 hq ⟨ws.length, fs, rn_last, hfs _⟩
  rw [List.append_nil] at hpush
  obtain ⟨l0, hl0⟩ := hp
  exact kk hC ⟨hpush, q1, hW.2.2.1, q2, q3⟩ (rn_L_grow hL) ⟨_, _, rfl, ⟨q, by rw [← hlen]; exact rn_last, rfl⟩, rn_vs_grow hS⟩ ⟨l0 ++ [q], by rw [hl0, List.append_assoc]⟩ (by omega) (by omega)
theorem rn_newI {n : Int32} {N : Nat} (hw : Cond.arrayClass .int ∈ rn_tb) (hd : decode M.2.1 pc = .ok (.newarray .int, 2)) (hn : ¬ n < 0) (hN : n.toNatClampNeg = N) (hb : N * componentBytes .int ≤ 536870912) (hw2 : w ++ [rn_i .int N (fun _ => 0)] = w2) (kk : Rn Z M (pc + 2) ls (.ref w.length :: st) w2 ca sa K) : Rn Z M pc ls (.int n :: st) w (ca + 1) (sa + N) K := by
  intro p e s m args below meth c H locs cells slots mc ms A ad0 ad ws tys la sta hC hW hL hS hp h1 h2
  obtain ⟨_, _, rfl, rfl, hS⟩ := hS
  subst hw2
  refine va_newa (a0 := (N, .inl (fun _ => 0))) hC.1 hC.2.1 (atype := .int) (hC.2.2.2.2.1 _ hw) rfl hW.2.2.1 hW.2.1 hW.2.2.2.1 hW.2.2.2.2 hC.2.2.2.2.2.2.2.2.1 (fun cA => rfl) hn hN hb (show cells + 1 ≤ mc by omega) (show slots + N ≤ ms by omega) hd (fun q cA H1 q0 q1 q2 q3 => ?_)
  have hq := rn_fresh hW.1 q2 hC.2.2.2.2.2.2.2.2.2.2.2.1
  have hlen : ad.length = w.length := hW.1.1
  have hpush := rn_w_push (t2 := [(cA, .int)]) (c1 := rn_i .int N (fun _ => 0)) (e1 := .inl (cA, (N, .inl (fun _ => 0)))) hW.1 hq ⟨ws.length, tys.length, cA, rn_last, rn_last⟩
  obtain ⟨l0, hl0⟩ := hp
  exact kk hC ⟨hpush, q1, q0, q2, q3⟩ (rn_L_grow hL) ⟨_, _, rfl, ⟨q, by rw [← hlen]; exact rn_last, rfl⟩, rn_vs_grow hS⟩ ⟨l0 ++ [q], by rw [hl0, List.append_assoc]⟩ (by omega) (by omega)
theorem rn_newC {n : Int32} {N : Nat} (hw : Cond.arrayClass .char ∈ rn_tb) (hd : decode M.2.1 pc = .ok (.newarray .char, 2)) (hn : ¬ n < 0) (hN : n.toNatClampNeg = N) (hb : N * componentBytes .char ≤ 536870912) (hw2 : w ++ [rn_i .char N (fun _ => 0)] = w2) (kk : Rn Z M (pc + 2) ls (.ref w.length :: st) w2 ca sa K) : Rn Z M pc ls (.int n :: st) w (ca + 1) (sa + N) K := by
  intro p e s m args below meth c H locs cells slots mc ms A ad0 ad ws tys la sta hC hW hL hS hp h1 h2
  obtain ⟨_, _, rfl, rfl, hS⟩ := hS
  subst hw2
  refine va_newa (a0 := (N, .inl (fun _ => 0))) hC.1 hC.2.1 (atype := .char) (hC.2.2.2.2.1 _ hw) rfl hW.2.2.1 hW.2.1 hW.2.2.2.1 hW.2.2.2.2 hC.2.2.2.2.2.2.2.2.1 (fun cA => rfl) hn hN hb (show cells + 1 ≤ mc by omega) (show slots + N ≤ ms by omega) hd (fun q cA H1 q0 q1 q2 q3 => ?_)
  have hq := rn_fresh hW.1 q2 hC.2.2.2.2.2.2.2.2.2.2.2.1
  have hlen : ad.length = w.length := hW.1.1
  have hpush := rn_w_push (t2 := [(cA, .char)]) (c1 := rn_i .char N (fun _ => 0)) (e1 := .inl (cA, (N, .inl (fun _ => 0)))) hW.1 hq ⟨ws.length, tys.length, cA, rn_last, rn_last⟩
  obtain ⟨l0, hl0⟩ := hp
  exact kk hC ⟨hpush, q1, q0, q2, q3⟩ (rn_L_grow hL) ⟨_, _, rfl, ⟨q, by rw [← hlen]; exact rn_last, rfl⟩, rn_vs_grow hS⟩ ⟨l0 ++ [q], by rw [hl0, List.append_assoc]⟩ (by omega) (by omega)
theorem rn_newL {n : Int32} {N : Nat} (hw : Cond.arrayClass .long ∈ rn_tb) (hd : decode M.2.1 pc = .ok (.newarray .long, 2)) (hn : ¬ n < 0) (hN : n.toNatClampNeg = N) (hb : N * componentBytes .long ≤ 536870912) (hw2 : w ++ [rn_l N (fun _ => 0)] = w2) (kk : Rn Z M (pc + 2) ls (.ref w.length :: st) w2 ca sa K) : Rn Z M pc ls (.int n :: st) w (ca + 1) (sa + N) K := by
  intro p e s m args below meth c H locs cells slots mc ms A ad0 ad ws tys la sta hC hW hL hS hp h1 h2
  obtain ⟨_, _, rfl, rfl, hS⟩ := hS
  subst hw2
  refine va_newa (a0 := (N, .inr (.inl (fun _ => 0)))) hC.1 hC.2.1 (atype := .long) (hC.2.2.2.2.1 _ hw) rfl hW.2.2.1 hW.2.1 hW.2.2.2.1 hW.2.2.2.2 hC.2.2.2.2.2.2.2.2.1 (fun cA => rfl) hn hN hb (show cells + 1 ≤ mc by omega) (show slots + N ≤ ms by omega) hd (fun q cA H1 q0 q1 q2 q3 => ?_)
  have hq := rn_fresh hW.1 q2 hC.2.2.2.2.2.2.2.2.2.2.2.1
  have hlen : ad.length = w.length := hW.1.1
  have hpush := rn_w_push (t2 := [(cA, .long)]) (c1 := rn_l N (fun _ => 0)) (e1 := .inl (cA, (N, .inr (.inl (fun _ => 0))))) hW.1 hq ⟨ws.length, tys.length, cA, rn_last, rn_last⟩
  obtain ⟨l0, hl0⟩ := hp
  exact kk hC ⟨hpush, q1, q0, q2, q3⟩ (rn_L_grow hL) ⟨_, _, rfl, ⟨q, by rw [← hlen]; exact rn_last, rfl⟩, rn_vs_grow hS⟩ ⟨l0 ++ [q], by rw [hl0, List.append_assoc]⟩ (by omega) (by omega)
/-- Object.<init> -/
theorem rn_objInit {idx : Nat} {v : Nat} (hl : Cond.methodLink M.1.cls idx Lib.objectInit ∈ rn_tb) (hi : Cond.instanceMethod Lib.objectInit ∈ rn_tb) (hc : Cond.code Lib.objectInit ⟨#[0xb1]⟩ 1 none ∈ rn_tb) (hd : decode M.2.1 pc = .ok (.invokespecial idx, 3)) (hf : 1 ≤ M.2.2.2.2.1) (hr : (st.map fun v => v.category).sum + 12 ≤ M.2.2.2.2.2) (kk : Rn Z M (pc + 3) ls st w ca sa K) : Rn Z M pc ls (.ref v :: st) w ca sa K := by
  intro p e s m args below meth c H locs cells slots mc ms A ad0 ad ws tys la sta hC hW hL hS hp h1 h2
  obtain ⟨_, us, rfl, ⟨a, ha, rfl⟩, hS⟩ := hS
  have hcat := rn_vs_cats hS
  exact W.objInit hC.1 hC.2.1 hC.2.2.2.1 (hC.2.2.2.2.1 _ hl) (hC.2.2.2.2.1 _ hi) (hC.2.2.2.2.1 _ hc) rfl (hL.1.trans hC.2.2.1.symm) rfl hd hf (show 2 * 0 + (us.map fun v => v.category).sum + 12 ≤ M.2.2.2.2.2 by rw [hcat]; omega) (kk hC hW hL hS hp h1 h2)
/-! ends -/
theorem rn_end {p : Program} {s t : State} {H : Heap} {locs : List Loc} {args : Array Value} {m : MethodId} {meth : Method} {c : Code} {A : Nat → Prop} {ad0 ad : List Nat} {ws : va_W} {tys : List (ClassId × FieldType)} {r v : Option Value} {a : Array Value} (hW : rn_Wd Z A s H locs ad tys w ws) (hp : ∃ l, ad = ad0 ++ l) (hr : rn_oo ad r v) (ht : t.heap = H) (hw : s.WarmedH t.vm) : rn_Q Z A ad0 r w a s (.returned v) t :=
  ⟨⟨ad, ws, tys, v, hp, rfl, hr, hW.1, by rw [ht]; exact hW.2.1, va_K.moved hw.alike hW.2.2.1, hW.2.2.2.1⟩, hW.2.2.2.2.F ht⟩
theorem rn_ireturn {x : Int32} (hd : decode M.2.1 pc = .ok (.ireturn, 1)) (hr : M.2.2.2.1 = some .int) : Rn Z M pc ls [.int x] w ca sa (rn_Ret Z (some (.int x)) w) := by
  intro p e s m args below meth c H locs cells slots mc ms A ad0 ad ws tys la sta hC hW hL hS hp h1 h2
  obtain ⟨_, _, rfl, rfl, hS⟩ := hS
  have hS : _ = _ := hS
  subst hS
  refine W.widen (k := mc) (n := ms) (by omega) (by omega) ?_
  exact W.iret (v := x) hC.1 hC.2.1 (hC.2.2.2.2.2.2.1.trans hr) (fun t ht hw => rn_end (r := some (.int x)) (p := p) (m := m) (meth := meth) (c := c) (args := args) hW hp ⟨_, rfl, rfl⟩ ht hw) hW.2.2.2.2.2.2 hd hC.2.2.2.2.2.1
theorem rn_zreturn {x : Int32} (hd : decode M.2.1 pc = .ok (.ireturn, 1)) (hr : M.2.2.2.1 = some .boolean) (hx : x = 0 ∨ x = 1) : Rn Z M pc ls [.int x] w ca sa (rn_Ret Z (some (.int x)) w) := by
  intro p e s m args below meth c H locs cells slots mc ms A ad0 ad ws tys la sta hC hW hL hS hp h1 h2
  obtain ⟨_, _, rfl, rfl, hS⟩ := hS
  have hS : _ = _ := hS
  subst hS
  refine W.widen (k := mc) (n := ms) (by omega) (by omega) ?_
  exact W.zret (v := x) (ty := .boolean) hC.1 hC.2.1 (hC.2.2.2.2.2.2.1.trans hr) (by rcases hx with rfl | rfl <;> rfl) (fun t ht hw => rn_end (r := some (.int x)) (p := p) (m := m) (meth := meth) (c := c) (args := args) hW hp ⟨_, rfl, rfl⟩ ht hw) hW.2.2.2.2.2.2 hd hC.2.2.2.2.2.1
theorem rn_lreturn {x : Int64} (hd : decode M.2.1 pc = .ok (.lreturn, 1)) (hr : M.2.2.2.1 = some .long) : Rn Z M pc ls [.long x] w ca sa (rn_Ret Z (some (.long x)) w) := by
  intro p e s m args below meth c H locs cells slots mc ms A ad0 ad ws tys la sta hC hW hL hS hp h1 h2
  obtain ⟨_, _, rfl, rfl, hS⟩ := hS
  have hS : _ = _ := hS
  subst hS
  refine W.widen (k := mc) (n := ms) (by omega) (by omega) ?_
  exact W.lret (v := x) hC.1 hC.2.1 (hC.2.2.2.2.2.2.1.trans hr) (fun t ht hw => rn_end (r := some (.long x)) (p := p) (m := m) (meth := meth) (c := c) (args := args) hW hp ⟨_, rfl, rfl⟩ ht hw) hW.2.2.2.2.2.2 hd hC.2.2.2.2.2.1
theorem rn_return (hd : decode M.2.1 pc = .ok (.return_, 1)) (hr : M.2.2.2.1 = none) : Rn Z M pc ls [] w ca sa (rn_Ret Z none w) := by
  intro p e s m args below meth c H locs cells slots mc ms A ad0 ad ws tys la sta hC hW hL hS hp h1 h2
  have hS : _ = _ := hS
  subst hS
  refine W.widen (k := mc) (n := ms) (by omega) (by omega) ?_
  exact W.vret hC.1 hC.2.1 (hC.2.2.2.2.2.2.1.trans hr) (fun t ht hw => rn_end (r := none) (p := p) (m := m) (meth := meth) (c := c) (args := args) hW hp (show rn_oo ad none none from rfl) ht hw) hW.2.2.2.2.2.2 hd hC.2.2.2.2.2.1
end
end
section
/-! The core, third part: calls, and a world under other numbers. -/
theorem rn_pay {args : Array Value} {s : State} (hts : ∀ w ∈ rn_tb, w.before args s = true) : ∀ w ∈ rn_tb, ∀ (a' : Array Value) (U : State), s.WarmedH U.vm → w.before a' U = true := fun w hw a' U hW => rn_warm (List.mem_filter.mp hw).2 (hts w hw) hW
theorem rn_blind {Z : rn_Z} {ws : va_W} {tys : List (ClassId × FieldType)} {ava : List Value} {sz : Nat} : FrameBlind (rn_P Z ws tys ava sz) := fun a U g mk q => by
  obtain ⟨q0, q1, qP, qK, qD, qX, qb, qn, qT⟩ := q
  exact ⟨q0, q1, qP, va_K.moved (u := U) (U := U.calling g mk a) (Vm.Alike.refl U.vm) qK, qD, va_X.moved (u := U) (U := U.calling g mk a) (Vm.Alike.refl U.vm) qX, qb, qn, qT.same (s := U) (U := U.calling g mk a) rfl⟩
def rn_Fit (M N : rn_M) : Prop := N.2.2.2.2.1 + 1 ≤ M.2.2.2.2.1 ∧ 8 + (N.2.2.1 + 11) + N.2.2.2.2.2 ≤ M.2.2.2.2.2
def rn_Inv (N : rn_M) (n : Nat) : Prop := Cond.code N.1 N.2.1 N.2.2.1 N.2.2.2.1 ∈ rn_tb ∧ Cond.initialized N.1.cls ∈ rn_tb ∧ (N.1.cls ≠ "java/lang/invoke/MethodHandle" ∧ N.1.cls ≠ "java/lang/invoke/VarHandle") ∧ (parseMethodDescriptor N.1.desc).map (fun d => d.parameters.length) = some n
def rn_IV (own : String) (idx : Nat) (N : rn_M) (n ci : Nat) : Prop := rn_Inv N n ∧ (Cond.methodLink own idx N.1 ∈ rn_tb ∨ ∃ host, Cond.methodLinkNest own idx N.1 host ∈ rn_tb) ∧ Cond.instanceMethod N.1 ∈ rn_tb ∧ Cond.selects N.1.cls N.1 N.1 ∈ rn_tb ∧ ∃ q : vw_C, rn_cl[ci]? = some q ∧ q.1 = N.1.cls
def rn_IS (own : String) (idx : Nat) (N : rn_M) (n : Nat) : Prop := rn_Inv N n ∧ (Cond.methodLink own idx N.1 ∈ rn_tb ∨ ∃ host, Cond.methodLinkNest own idx N.1 host ∈ rn_tb) ∧ Cond.static N.1 ∈ rn_tb
def rn_II (own : String) (idx : Nat) (N : rn_M) (n : Nat) : Prop := rn_Inv N n ∧ (Cond.methodLink own idx N.1 ∈ rn_tb ∨ ∃ host, Cond.methodLinkNest own idx N.1 host ∈ rn_tb) ∧ Cond.instanceMethod N.1 ∈ rn_tb ∧ N.1.name = "<init>"
section
variable {Z : rn_Z} {M N : rn_M} {pc : Nat} {ls : List (Option Value)} {st st0 : List Value} {w w1 : List rn_C} {ca sa ca' sa' : Nat} {K : rn_K} {r : Option Value}
theorem rn_callB {R : Room} {s : State} {args : Array Value} {own : String} {idx n : Nat} (hts : ∀ w ∈ rn_tb, w.before args s = true) (hI : rn_Inv N n) (hl : Cond.methodLink own idx N.1 ∈ rn_tb) (hf : N.2.2.2.2.1 + 1 ≤ R.frames ∧ 8 + (N.2.2.1 + 11) + N.2.2.2.2.2 ≤ R.locals) : CallB R s args own idx N.1 N.2.1 N.2.2.1 N.2.2.2.1 (rn_ws N) (rn_R N ca' sa') ca' sa' n := by
  refine ⟨rfl, rfl, hf.1, hf.2, fun w hw => ?_, List.mem_cons_self, hts _ hI.1, hts _ hI.2.1, hI.2.2.1, fun sig h => ?_, hts _ hl⟩
  · rcases List.mem_cons.mp hw with h | h
    · subst h
      exact rn_pay hts _ hI.1
    · exact rn_pay hts _ h
  · have h2 := hI.2.2.2
    rw [h] at h2
    exact (Option.some.inj h2).symm
theorem rn_callN {R : Room} {s : State} {args : Array Value} {own host : String} {idx n : Nat} (hts : ∀ w ∈ rn_tb, w.before args s = true) (hI : rn_Inv N n) (hl : Cond.methodLinkNest own idx N.1 host ∈ rn_tb) (hf : N.2.2.2.2.1 + 1 ≤ R.frames ∧ 8 + (N.2.2.1 + 11) + N.2.2.2.2.2 ≤ R.locals) : va_CN R s args own idx N.1 host N.2.1 N.2.2.1 N.2.2.2.1 (rn_ws N) (rn_R N ca' sa') ca' sa' n := by
  refine ⟨⟨rfl, rfl, hf.1, hf.2, fun w hw => ?_, List.mem_cons_self⟩, hts _ hI.1, hts _ hI.2.1, hI.2.2.1, fun sig h => ?_, hts _ hl⟩
  · rcases List.mem_cons.mp hw with h | h
    · subst h
      exact rn_pay hts _ hI.1
    · exact rn_pay hts _ h
  · have h2 := hI.2.2.2
    rw [h] at h2
    exact (Option.some.inj h2).symm
theorem rn_pre {p : Program} {s : State} {m : MethodId} {args : Array Value} {meth : Method} {c : Code} {H : Heap} {locs : List Loc} {A : Nat → Prop} {ad : List Nat} {ws : va_W} {tys : List (ClassId × FieldType)} {ava : List Value} (hC : rn_X Z M p s m args meth c A) (hW : rn_Wd Z A s H locs ad tys w ws) : ∀ U : State, U.heap = H → s.WarmedH U.vm → rn_P Z ws tys ava H.size ava.toArray U := by
  intro U hU hw
  have hX := va_X.kept hC.2.2.2.2.2.2.2.2.2.1 (hW.2.2.2.2.2.1 _ hC.2.2.2.2.2.2.2.2.2.2.1 hC.2.2.2.2.2.2.2.2.2.2.2.1)
  refine ⟨rfl, by rw [hU], by rw [hU]; exact hW.2.1, va_K.moved hw.alike hW.2.2.1, hW.2.2.2.1.weaken (fun _ _ _ _ => trivial), by rw [hU]; exact va_X.moved hw.alike hX, Nat.lt_of_lt_of_le hC.2.2.2.2.2.2.2.2.2.2.1 hW.2.2.2.2.1, fun k e hk => ?_, ?_⟩
  · exact hC.2.2.2.2.2.2.2.2.2.2.2.1 (hW.2.2.2.1.2 k _ hk)
  · rw [hU]
    refine rn_Th.warm hw ((hC.2.2.2.2.2.2.2.2.2.2.2.2.kept hW.2.2.2.2.2.1).narrow (fun q hq => ?_))
    rcases hq with ⟨k0, e0, hk0⟩ | hq
    · exact hW.2.2.2.1.2 k0 _ hk0
    · exact hC.2.2.2.2.2.2.2.2.1 q (Nat.le_trans hW.2.2.2.2.1 hq)
/-- behind a call -/
theorem rn_goon {p : Program} {e : Env} {s : State} {m : MethodId} {args : Array Value} {below : List Frame} {meth : Method} {c : Code} {H : Heap} {locs : List Loc} {cells slots mc ms : Nat} {A : Nat → Prop} {ad0 ad : List Nat} {ws : va_W} {tys : List (ClassId × FieldType)} {la : Array Slot} {rest sta : List Value} {aa : Array Value}
    (hC : rn_X Z M p s m args meth c A) (hW : rn_Wd Z A s H locs ad tys w ws) (hL : rn_L ad la M.2.2.1 ls) (hS : rn_vs ad st rest) (hp : ∃ l, ad = ad0 ++ l) (h1 : cells + (ca + ca') ≤ mc) (h2 : slots + (sa + sa') ≤ ms)
    (hr : va_Run p Z.1 e (rn_R M mc ms) s m args below meth c H locs cells slots ca' sa' (F0 m pc la sta) rest (rn_Q Z (va_A ws H.size) ad r w1 aa) (va_A ws H.size))
    (k : Rn Z M (pc + 3) ls (r.toList ++ st) w1 ca sa K) : W p Z.1 e (rn_R M mc ms) s m args below meth c H locs cells slots (K below args s mc ms A ad0) (F0 m pc la sta) := by
  have hAA : ∀ q, va_A ws H.size q → A q := by
    intro q hq
    rcases hq with ⟨k0, e0, hk0⟩ | hq
    · exact hW.2.2.2.1.2 k0 _ hk0
    · exact hC.2.2.2.2.2.2.2.2.1 q (Nat.le_trans hW.2.2.2.2.1 hq)
  intro T hT X
  obtain ⟨v, st₀, t, T', L, h0, X', hLb, e1, e2, hq, stp⟩ := hr T hT X
  obtain ⟨⟨ad', ws', tys', v', ⟨l', hl'⟩, ho, hv, hw1, hP1, hK1, hD1⟩, hz, hkp⟩ := hq
  cases ho
  rw [h0] at hz hkp
  subst hl'
  obtain ⟨l0, hl0⟩ := hp
  have hal : t.vm.Alike s.vm := by rw [← e2]; exact X'.warmed.alike.symm
  have hP2 : va_P Z.2.1 rn_cl ws' T'.heap := by rw [e1]; exact hP1
  have hS2 : va_S A s.heap T'.heap (locs ++ L) := by
    refine ⟨by rw [e1]; exact Nat.le_trans hW.2.2.2.2.1 hz, fun q g1 g2 => ?_, fun q hq => ?_⟩
    · rw [e1, hkp q (Nat.lt_of_lt_of_le g1 hW.2.2.2.2.1) (fun z => g2 (hAA q z))]
      exact hW.2.2.2.2.2.1 q g1 g2
    · rcases List.mem_append.mp hq with h | h
      · exact hW.2.2.2.2.2.2 q h
      · exact hAA _ (hLb q h)
  have hst : rn_vs (ad ++ l') (r.toList ++ st) (v.toList ++ rest) := by
    cases r with
    | none =>
      have hv : v = none := hv
      subst hv
      exact rn_vs_grow hS
    | some x =>
      obtain ⟨u, rfl, hu⟩ := hv
      exact ⟨u, rest, rfl, hu, rn_vs_grow hS⟩
  have hWd2 : rn_Wd Z A s T'.heap (locs ++ L) (ad ++ l') tys' w1 ws' := ⟨hw1, hP2, va_K.moved hal hK1, hD1.weaken (fun _ _ _ q => hAA _ q), hS2⟩
  obtain ⟨t2, a1, b1⟩ := k (p := p) (e := e) (below := below) (cells := cells + ca') (slots := slots + sa') (mc := mc) (ms := ms) (ad0 := ad0) hC hWd2 (rn_L_grow hL) hst ⟨l0 ++ l', by rw [hl0, List.append_assoc]⟩ (by omega) (by omega) T' rfl X'
  exact ⟨t2, stp t2 a1, b1⟩
theorem rn_invV {idx n ci ob : Nat} {av : List Value} {fs : List Value} (hc : Call Z N (.ref ob :: av) w ca' sa' r w1) (hI : rn_IV M.1.cls idx N n ci) (hf : rn_Fit M N) (hd : decode M.2.1 pc = .ok (.invokevirtual idx, 3)) (ho : w[ob]? = some (rn_o ci fs)) (hn : av.length = n) (hst : av.reverse ++ .ref ob :: st = st0) (hrm : (st.map fun v => v.category).sum ≤ 8) (k : Rn Z M (pc + 3) ls (r.toList ++ st) w1 ca sa K) : Rn Z M pc ls st0 w (ca + ca') (sa + sa') K := by
  intro p e s m args below meth c H locs cells slots mc ms A ad0 ad ws tys la sta hC hW hL hS hp h1 h2
  subst hst
  obtain ⟨u1, u2, rfl, g1, u, rest, rfl, ⟨a, ha, rfl⟩, g2⟩ := rn_vs_app hS
  have hav : rn_vs ad av u1.reverse := by have := rn_vs_rev g1; rwa [List.reverse_reverse] at this
  have hlen : u1.reverse.length = n := by rw [rn_vs_len hav]; exact hn
  obtain ⟨a', ha', k0, us, h0, hus⟩ := hW.1.2.2 _ _ ho
  cases ha.symm.trans ha'
  obtain ⟨hI0, hl, hi, hse, q, hq, hqc⟩ := hI
  have hM := hc ad ws tys (.ref a :: u1.reverse) H.size ⟨_, _, rfl, ⟨a, ha, rfl⟩, hav⟩ hW.1
  have hrc : ∃ cell : Cell, H[a]? = some cell ∧ cell.vm.isStatics = false ∧ s.vm.findClass N.1.cls = some cell.cls := by rw [← hqc]; exact va_recv hW.2.2.1 hW.2.1 hq h0
  have hcat : 2 * (F0 m pc la (u1 ++ .ref a :: rest)).monitorRoom + (rest.map fun v => v.category).sum ≤ 8 := lv_room (by rw [rn_vs_cats g2]; exact hrm)
  rcases hl with hl | ⟨host, hl⟩
  · exact rn_goon hC hW hL g2 hp h1 h2 (va_runV (b := a) (As := u1.reverse) (rest := rest) ⟨hC.1, hC.2.1, hC.2.2.1, hC.2.2.2.1, hC.2.2.2.2.1⟩ hM ⟨rn_callB hC.2.2.2.2.1 hI0 hl hf, hC.2.2.2.2.1 _ hi, hC.2.2.2.2.1 _ hse⟩ ⟨rn_blind, hrc, rn_pre hC hW⟩ rfl hlen hL.1 (by rw [List.reverse_reverse]) hcat hd ⟨(show cells + ca' ≤ mc by omega), (show slots + sa' ≤ ms by omega)⟩) k
  · exact rn_goon hC hW hL g2 hp h1 h2 (va_runVN (b := a) (As := u1.reverse) (rest := rest) ⟨hC.1, hC.2.1, hC.2.2.1, hC.2.2.2.1, hC.2.2.2.2.1⟩ hM ⟨rn_callN hC.2.2.2.2.1 hI0 hl hf, hC.2.2.2.2.1 _ hi, hC.2.2.2.2.1 _ hse⟩ ⟨rn_blind, hrc, rn_pre hC hW⟩ rfl hlen hL.1 (by rw [List.reverse_reverse]) hcat hd ⟨(show cells + ca' ≤ mc by omega), (show slots + sa' ≤ ms by omega)⟩) k
theorem rn_invS {idx n : Nat} {av : List Value} (hc : Call Z N av w ca' sa' r w1) (hI : rn_IS M.1.cls idx N n) (hf : rn_Fit M N) (hd : decode M.2.1 pc = .ok (.invokestatic idx, 3)) (hn : av.length = n) (hst : av.reverse ++ st = st0) (hrm : (st.map fun v => v.category).sum ≤ 8) (k : Rn Z M (pc + 3) ls (r.toList ++ st) w1 ca sa K) : Rn Z M pc ls st0 w (ca + ca') (sa + sa') K := by
  intro p e s m args below meth c H locs cells slots mc ms A ad0 ad ws tys la sta hC hW hL hS hp h1 h2
  subst hst
  obtain ⟨u1, rest, rfl, g1, g2⟩ := rn_vs_app hS
  have hav : rn_vs ad av u1.reverse := by have := rn_vs_rev g1; rwa [List.reverse_reverse] at this
  have hlen : u1.reverse.length = n := by rw [rn_vs_len hav]; exact hn
  obtain ⟨hI0, hl, hi⟩ := hI
  have hM := hc ad ws tys u1.reverse H.size hav hW.1
  have hcat : 2 * (F0 m pc la (u1 ++ rest)).monitorRoom + (rest.map fun v => v.category).sum ≤ 8 := lv_room (by rw [rn_vs_cats g2]; exact hrm)
  rcases hl with hl | ⟨host, hl⟩
  · exact rn_goon hC hW hL g2 hp h1 h2 (va_runS (As := u1.reverse) (rest := rest) ⟨hC.1, hC.2.1, hC.2.2.1, hC.2.2.2.1, hC.2.2.2.2.1⟩ hM ⟨rn_callB hC.2.2.2.2.1 hI0 hl hf, hC.2.2.2.2.1 _ hi⟩ ⟨rn_blind, rn_pre hC hW⟩ rfl hlen hL.1 (by rw [List.reverse_reverse]) hcat hd ⟨(show cells + ca' ≤ mc by omega), (show slots + sa' ≤ ms by omega)⟩) k
  · exact rn_goon hC hW hL g2 hp h1 h2 (va_runSN (As := u1.reverse) (rest := rest) ⟨hC.1, hC.2.1, hC.2.2.1, hC.2.2.2.1, hC.2.2.2.2.1⟩ hM ⟨rn_callN hC.2.2.2.2.1 hI0 hl hf, hC.2.2.2.2.1 _ hi, trivial⟩ ⟨rn_blind, rn_pre hC hW⟩ rfl hlen hL.1 (by rw [List.reverse_reverse]) hcat hd ⟨(show cells + ca' ≤ mc by omega), (show slots + sa' ≤ ms by omega)⟩) k
theorem rn_invI {idx n ob : Nat} {av : List Value} (hc : Call Z N (.ref ob :: av) w ca' sa' none w1) (hI : rn_II M.1.cls idx N n) (hnr : N.2.2.2.1 = none) (hf : rn_Fit M N) (hd : decode M.2.1 pc = .ok (.invokespecial idx, 3)) (hn : av.length = n) (hst : av.reverse ++ .ref ob :: st = st0) (hrm : (st.map fun v => v.category).sum ≤ 8) (k : Rn Z M (pc + 3) ls st w1 ca sa K) : Rn Z M pc ls st0 w (ca + ca') (sa + sa') K := by
  intro p e s m args below meth c H locs cells slots mc ms A ad0 ad ws tys la sta hC hW hL hS hp h1 h2
  subst hst
  obtain ⟨u1, u2, rfl, g1, u, rest, rfl, ⟨a, ha, rfl⟩, g2⟩ := rn_vs_app hS
  have hav : rn_vs ad av u1.reverse := by have := rn_vs_rev g1; rwa [List.reverse_reverse] at this
  have hlen : u1.reverse.length = n := by rw [rn_vs_len hav]; exact hn
  obtain ⟨hI0, hl, hi, hnm⟩ := hI
  have hM := hc ad ws tys (.ref a :: u1.reverse) H.size ⟨_, _, rfl, ⟨a, ha, rfl⟩, hav⟩ hW.1
  have hcat : 2 * (F0 m pc la (u1 ++ .ref a :: rest)).monitorRoom + (rest.map fun v => v.category).sum ≤ 8 := lv_room (by rw [rn_vs_cats g2]; exact hrm)
  rcases hl with hl | ⟨host, hl⟩
  · have hB := rn_callB (R := rn_R M mc ms) (ca' := ca') (sa' := sa') hC.2.2.2.2.1 hI0 hl hf
    rw [hnr] at hB
    exact rn_goon (r := none) hC hW hL g2 hp h1 h2 (va_runI (b := a) (As := u1.reverse) (rest := rest) ⟨hC.1, hC.2.1, hC.2.2.1, hC.2.2.2.1, hC.2.2.2.2.1⟩ hM ⟨hB, hnm, hC.2.2.2.2.1 _ hi⟩ ⟨rn_blind, rn_pre hC hW⟩ rfl hlen hL.1 (by rw [List.reverse_reverse]) hcat hd ⟨(show cells + ca' ≤ mc by omega), (show slots + sa' ≤ ms by omega)⟩) k
  · have hB := rn_callN (R := rn_R M mc ms) (ca' := ca') (sa' := sa') hC.2.2.2.2.1 hI0 hl hf
    rw [hnr] at hB
    exact rn_goon (r := none) hC hW hL g2 hp h1 h2 (va_runIN (b := a) (As := u1.reverse) (rest := rest) ⟨hC.1, hC.2.1, hC.2.2.1, hC.2.2.2.1, hC.2.2.2.2.1⟩ hM ⟨hB, hnm, hC.2.2.2.2.1 _ hi⟩ ⟨rn_blind, rn_pre hC hW⟩ rfl hlen hL.1 (by rw [List.reverse_reverse]) hcat hd ⟨(show cells + ca' ≤ mc by omega), (show slots + sa' ≤ ms by omega)⟩) k
end
/-! a world under other numbers: new number j is the old number is[j] -/
def rn_mv (is : List Nat) : Value → Value
  | .ref j => match is[j]? with
    | some i => .ref i
    | none => .retAddr 0
  | v => v
def rn_mr (is : List Nat) : Option Nat → Option (Option Nat)
  | none => some none
  | some j => match is[j]? with
    | some i => some (some i)
    | none => none
def rn_mc (is : List Nat) : rn_C → rn_C
  | .inr (.inr (.inr (.inl (ci, fs)))) => rn_o ci (fs.map (rn_mv is))
  | .inr (.inr (.inl (ty, l))) => rn_q ty (l.map fun x => match x with
    | none => none
    | some j => some (is.getD j 0))
  | c => c
theorem rn_mv_ok {is ad ad' : List Nat} (hg : ∀ (j i a : Nat), is[j]? = some i → ad[i]? = some a → ad'[j]? = some a) {v u : Value} (h : rn_v ad (rn_mv is v) u) : rn_v ad' v u := by
  cases v with
  | ref j =>
    cases hj : is[j]? with
    | none =>
      have e : rn_mv is (.ref j) = .retAddr 0 := by simp [rn_mv, hj]
      rw [e] at h
      exact h.elim
    | some i =>
      have e : rn_mv is (.ref j) = .ref i := by simp [rn_mv, hj]
      rw [e] at h
      obtain ⟨a, h1, h2⟩ := h
      exact ⟨a, hg j i a hj h1, h2⟩
  | _ => exact h
theorem rn_mvs_ok {is ad ad' : List Nat} (hg : ∀ (j i a : Nat), is[j]? = some i → ad[i]? = some a → ad'[j]? = some a) : ∀ {vs us : List Value}, rn_vs ad (vs.map (rn_mv is)) us → rn_vs ad' vs us
  | [], _, h => h
  | _ :: _, _, ⟨u, us', h1, h2, h3⟩ => ⟨u, us', h1, rn_mv_ok hg h2, rn_mvs_ok hg h3⟩
end
