section
/-- a private method of a class that the tables say can be made, by its rows of tables_1 -/
def lw_okq (q : MethodName × Nat) : Prop := (q.1.cls ≠ "java/lang/invoke/MethodHandle" ∧ q.1.cls ≠ "java/lang/invoke/VarHandle") ∧ Cond.instantiable q.1.cls q.2 ∈ tables_1 ∧ Cond.privateMethod q.1 ∈ tables_1 ∧ Cond.instanceMethod q.1 ∈ tables_1
theorem lw_p0 : lw_okq (⟨"WeightedTrees", "hasGrammar", "()Z"⟩, 7) := ⟨⟨by decide +kernel, by decide +kernel⟩, List.mem_of_getElem? (i := 18) (by decide +kernel), List.mem_of_getElem? (i := 241) (by decide +kernel), List.mem_of_getElem? (i := 242) (by decide +kernel)⟩
theorem lw_p1 : lw_okq (⟨"WeightedTrees$GrammarReader", "isLeftOut", "()Z"⟩, 4) := ⟨⟨by decide +kernel, by decide +kernel⟩, List.mem_of_getElem? (i := 254) (by decide +kernel), List.mem_of_getElem? (i := 289) (by decide +kernel), List.mem_of_getElem? (i := 290) (by decide +kernel)⟩
theorem lw_p2 : lw_okq (⟨"WeightedTrees$GrammarReader", "sees", "(C)Z"⟩, 4) := ⟨⟨by decide +kernel, by decide +kernel⟩, List.mem_of_getElem? (i := 254) (by decide +kernel), List.mem_of_getElem? (i := 293) (by decide +kernel), List.mem_of_getElem? (i := 294) (by decide +kernel)⟩
theorem lw_p3 : lw_okq (⟨"WeightedTrees$GrammarReader", "seen", "()I"⟩, 4) := ⟨⟨by decide +kernel, by decide +kernel⟩, List.mem_of_getElem? (i := 254) (by decide +kernel), List.mem_of_getElem? (i := 297) (by decide +kernel), List.mem_of_getElem? (i := 298) (by decide +kernel)⟩
theorem lw_p4 : lw_okq (⟨"WeightedTrees$GrammarReader", "readRule", "()Z"⟩, 4) := ⟨⟨by decide +kernel, by decide +kernel⟩, List.mem_of_getElem? (i := 254) (by decide +kernel), List.mem_of_getElem? (i := 301) (by decide +kernel), List.mem_of_getElem? (i := 302) (by decide +kernel)⟩
theorem lw_p5 : lw_okq (⟨"WeightedTrees$GrammarReader", "readHead", "(I)Z"⟩, 4) := ⟨⟨by decide +kernel, by decide +kernel⟩, List.mem_of_getElem? (i := 254) (by decide +kernel), List.mem_of_getElem? (i := 305) (by decide +kernel), List.mem_of_getElem? (i := 306) (by decide +kernel)⟩
theorem lw_p6 : lw_okq (⟨"WeightedTrees$GrammarReader", "readSymbol", "()I"⟩, 4) := ⟨⟨by decide +kernel, by decide +kernel⟩, List.mem_of_getElem? (i := 254) (by decide +kernel), List.mem_of_getElem? (i := 312) (by decide +kernel), List.mem_of_getElem? (i := 313) (by decide +kernel)⟩
theorem lw_p7 : lw_okq (⟨"WeightedTrees$GrammarReader", "skip", "(C)Z"⟩, 4) := ⟨⟨by decide +kernel, by decide +kernel⟩, List.mem_of_getElem? (i := 254) (by decide +kernel), List.mem_of_getElem? (i := 320) (by decide +kernel), List.mem_of_getElem? (i := 321) (by decide +kernel)⟩
theorem lw_p8 : lw_okq (⟨"WeightedTrees$GrammarReader", "readBody", "(I)Z"⟩, 4) := ⟨⟨by decide +kernel, by decide +kernel⟩, List.mem_of_getElem? (i := 254) (by decide +kernel), List.mem_of_getElem? (i := 324) (by decide +kernel), List.mem_of_getElem? (i := 325) (by decide +kernel)⟩
theorem lw_p9 : lw_okq (⟨"WeightedTrees$GrammarReader", "readWeight", "(I)Z"⟩, 4) := ⟨⟨by decide +kernel, by decide +kernel⟩, List.mem_of_getElem? (i := 254) (by decide +kernel), List.mem_of_getElem? (i := 331) (by decide +kernel), List.mem_of_getElem? (i := 332) (by decide +kernel)⟩
theorem lw_p10 : lw_okq (⟨"WeightedTrees$GrammarReader", "readNumber", "()I"⟩, 4) := ⟨⟨by decide +kernel, by decide +kernel⟩, List.mem_of_getElem? (i := 254) (by decide +kernel), List.mem_of_getElem? (i := 335) (by decide +kernel), List.mem_of_getElem? (i := 336) (by decide +kernel)⟩
theorem lw_p11 : lw_okq (⟨"WeightedTrees$GrammarReader", "readCost", "(I)Z"⟩, 4) := ⟨⟨by decide +kernel, by decide +kernel⟩, List.mem_of_getElem? (i := 254) (by decide +kernel), List.mem_of_getElem? (i := 343) (by decide +kernel), List.mem_of_getElem? (i := 344) (by decide +kernel)⟩
theorem lw_p12 : lw_okq (⟨"java/lang/Throwable", "fillInStackTrace", "(I)Ljava/lang/Throwable;"⟩, 6) := ⟨⟨by decide +kernel, by decide +kernel⟩, List.mem_of_getElem? (i := 385) (by decide +kernel), List.mem_of_getElem? (i := 383) (by decide +kernel), List.mem_of_getElem? (i := 384) (by decide +kernel)⟩
theorem lw_p13 : lw_okq (⟨"WeightedTrees$Grammar", "emptyable", "()I"⟩, 10) := ⟨⟨by decide +kernel, by decide +kernel⟩, List.mem_of_getElem? (i := 127) (by decide +kernel), List.mem_of_getElem? (i := 419) (by decide +kernel), List.mem_of_getElem? (i := 420) (by decide +kernel)⟩
theorem lw_p14 : lw_okq (⟨"WeightedTrees$Grammar", "vanishes", "(III)Z"⟩, 10) := ⟨⟨by decide +kernel, by decide +kernel⟩, List.mem_of_getElem? (i := 127) (by decide +kernel), List.mem_of_getElem? (i := 423) (by decide +kernel), List.mem_of_getElem? (i := 424) (by decide +kernel)⟩
theorem lw_p15 : lw_okq (⟨"WeightedTrees$Grammar", "findReached", "(I)V"⟩, 10) := ⟨⟨by decide +kernel, by decide +kernel⟩, List.mem_of_getElem? (i := 127) (by decide +kernel), List.mem_of_getElem? (i := 437) (by decide +kernel), List.mem_of_getElem? (i := 438) (by decide +kernel)⟩
def lw_privs_1 : List (MethodName × Nat) := [(⟨"WeightedTrees", "hasGrammar", "()Z"⟩, 7), (⟨"WeightedTrees$GrammarReader", "isLeftOut", "()Z"⟩, 4), (⟨"WeightedTrees$GrammarReader", "sees", "(C)Z"⟩, 4), (⟨"WeightedTrees$GrammarReader", "seen", "()I"⟩, 4), (⟨"WeightedTrees$GrammarReader", "readRule", "()Z"⟩, 4), (⟨"WeightedTrees$GrammarReader", "readHead", "(I)Z"⟩, 4), (⟨"WeightedTrees$GrammarReader", "readSymbol", "()I"⟩, 4), (⟨"WeightedTrees$GrammarReader", "skip", "(C)Z"⟩, 4), (⟨"WeightedTrees$GrammarReader", "readBody", "(I)Z"⟩, 4), (⟨"WeightedTrees$GrammarReader", "readWeight", "(I)Z"⟩, 4), (⟨"WeightedTrees$GrammarReader", "readNumber", "()I"⟩, 4), (⟨"WeightedTrees$GrammarReader", "readCost", "(I)Z"⟩, 4), (⟨"java/lang/Throwable", "fillInStackTrace", "(I)Ljava/lang/Throwable;"⟩, 6), (⟨"WeightedTrees$Grammar", "emptyable", "()I"⟩, 10), (⟨"WeightedTrees$Grammar", "vanishes", "(III)Z"⟩, 10), (⟨"WeightedTrees$Grammar", "findReached", "(I)V"⟩, 10)]
theorem lw_r1 : ∀ q ∈ lw_privs_1, lw_okq q := List.forall_mem_cons.mpr ⟨lw_p0, List.forall_mem_cons.mpr ⟨lw_p1, List.forall_mem_cons.mpr ⟨lw_p2, List.forall_mem_cons.mpr ⟨lw_p3, List.forall_mem_cons.mpr ⟨lw_p4, List.forall_mem_cons.mpr ⟨lw_p5, List.forall_mem_cons.mpr ⟨lw_p6, List.forall_mem_cons.mpr ⟨lw_p7, List.forall_mem_cons.mpr ⟨lw_p8, List.forall_mem_cons.mpr ⟨lw_p9, List.forall_mem_cons.mpr ⟨lw_p10, List.forall_mem_cons.mpr ⟨lw_p11, List.forall_mem_cons.mpr ⟨lw_p12, List.forall_mem_cons.mpr ⟨lw_p13, List.forall_mem_cons.mpr ⟨lw_p14, List.forall_mem_cons.mpr ⟨lw_p15, fun _ h => absurd h List.not_mem_nil⟩⟩⟩⟩⟩⟩⟩⟩⟩⟩⟩⟩⟩⟩⟩⟩
theorem lw_p16 : lw_okq (⟨"WeightedTrees$Grammar", "closeReached", "()V"⟩, 10) := ⟨⟨by decide +kernel, by decide +kernel⟩, List.mem_of_getElem? (i := 127) (by decide +kernel), List.mem_of_getElem? (i := 441) (by decide +kernel), List.mem_of_getElem? (i := 442) (by decide +kernel)⟩
theorem lw_p17 : lw_okq (⟨"WeightedTrees", "takeSpareGrammar", "()V"⟩, 7) := ⟨⟨by decide +kernel, by decide +kernel⟩, List.mem_of_getElem? (i := 18) (by decide +kernel), List.mem_of_getElem? (i := 467) (by decide +kernel), List.mem_of_getElem? (i := 468) (by decide +kernel)⟩
theorem lw_p18 : lw_okq (⟨"WeightedTrees$Chart", "addRule", "(LWeightedTrees$Grammar;III)V"⟩, 10) := ⟨⟨by decide +kernel, by decide +kernel⟩, List.mem_of_getElem? (i := 43) (by decide +kernel), List.mem_of_getElem? (i := 486) (by decide +kernel), List.mem_of_getElem? (i := 487) (by decide +kernel)⟩
theorem lw_p19 : lw_okq (⟨"WeightedTrees$Chart", "matchBody", "(LWeightedTrees$Grammar;III)V"⟩, 10) := ⟨⟨by decide +kernel, by decide +kernel⟩, List.mem_of_getElem? (i := 43) (by decide +kernel), List.mem_of_getElem? (i := 490) (by decide +kernel), List.mem_of_getElem? (i := 491) (by decide +kernel)⟩
theorem lw_p20 : lw_okq (⟨"WeightedTrees$Chart", "matchNonterminal", "(IIII)V"⟩, 10) := ⟨⟨by decide +kernel, by decide +kernel⟩, List.mem_of_getElem? (i := 43) (by decide +kernel), List.mem_of_getElem? (i := 496) (by decide +kernel), List.mem_of_getElem? (i := 497) (by decide +kernel)⟩
theorem lw_p21 : lw_okq (⟨"WeightedTrees$Chart", "matchTerminal", "(IIII)V"⟩, 10) := ⟨⟨by decide +kernel, by decide +kernel⟩, List.mem_of_getElem? (i := 43) (by decide +kernel), List.mem_of_getElem? (i := 500) (by decide +kernel), List.mem_of_getElem? (i := 501) (by decide +kernel)⟩
theorem lw_p22 : lw_okq (⟨"WeightedTrees$Chart", "keepBody", "(LWeightedTrees$Grammar;III)V"⟩, 10) := ⟨⟨by decide +kernel, by decide +kernel⟩, List.mem_of_getElem? (i := 43) (by decide +kernel), List.mem_of_getElem? (i := 504) (by decide +kernel), List.mem_of_getElem? (i := 505) (by decide +kernel)⟩
theorem lw_p23 : lw_okq (⟨"WeightedTrees$UnitTable", "addRule", "(LWeightedTrees$Grammar;LWeightedTrees$Chart;I)V"⟩, 1) := ⟨⟨by decide +kernel, by decide +kernel⟩, List.mem_of_getElem? (i := 91) (by decide +kernel), List.mem_of_getElem? (i := 512) (by decide +kernel), List.mem_of_getElem? (i := 513) (by decide +kernel)⟩
theorem lw_p24 : lw_okq (⟨"WeightedTrees", "requireNonterminal", "(I)V"⟩, 7) := ⟨⟨by decide +kernel, by decide +kernel⟩, List.mem_of_getElem? (i := 18) (by decide +kernel), List.mem_of_getElem? (i := 564) (by decide +kernel), List.mem_of_getElem? (i := 565) (by decide +kernel)⟩
theorem lw_p25 : lw_okq (⟨"WeightedTrees", "requirePart", "(II)V"⟩, 7) := ⟨⟨by decide +kernel, by decide +kernel⟩, List.mem_of_getElem? (i := 18) (by decide +kernel), List.mem_of_getElem? (i := 615) (by decide +kernel), List.mem_of_getElem? (i := 616) (by decide +kernel)⟩
theorem lw_p26 : lw_okq (⟨"WeightedTrees$TreeListing", "keepPlace", "(IIII)V"⟩, 5) := ⟨⟨by decide +kernel, by decide +kernel⟩, List.mem_of_getElem? (i := 101) (by decide +kernel), List.mem_of_getElem? (i := 641) (by decide +kernel), List.mem_of_getElem? (i := 642) (by decide +kernel)⟩
theorem lw_p27 : lw_okq (⟨"WeightedTrees$TreeListing", "expand", "(LWeightedTrees$Grammar;LWeightedTrees$Chart;I)V"⟩, 5) := ⟨⟨by decide +kernel, by decide +kernel⟩, List.mem_of_getElem? (i := 101) (by decide +kernel), List.mem_of_getElem? (i := 652) (by decide +kernel), List.mem_of_getElem? (i := 653) (by decide +kernel)⟩
theorem lw_p28 : lw_okq (⟨"WeightedTreesModel", "take", "(I)I"⟩, 35) := ⟨⟨by decide +kernel, by decide +kernel⟩, List.mem_of_getElem? (i := 671) (by decide +kernel), List.mem_of_getElem? (i := 800) (by decide +kernel), List.mem_of_getElem? (i := 801) (by decide +kernel)⟩
theorem lw_p29 : lw_okq (⟨"WeightedTreesModel", "readGrammar", "(I)I"⟩, 35) := ⟨⟨by decide +kernel, by decide +kernel⟩, List.mem_of_getElem? (i := 671) (by decide +kernel), List.mem_of_getElem? (i := 804) (by decide +kernel), List.mem_of_getElem? (i := 805) (by decide +kernel)⟩
theorem lw_p30 : lw_okq (⟨"WeightedTreesModel", "ruleLine", "()Z"⟩, 35) := ⟨⟨by decide +kernel, by decide +kernel⟩, List.mem_of_getElem? (i := 671) (by decide +kernel), List.mem_of_getElem? (i := 808) (by decide +kernel), List.mem_of_getElem? (i := 809) (by decide +kernel)⟩
theorem lw_p31 : lw_okq (⟨"WeightedTreesModel", "symbol", "(I)I"⟩, 35) := ⟨⟨by decide +kernel, by decide +kernel⟩, List.mem_of_getElem? (i := 671) (by decide +kernel), List.mem_of_getElem? (i := 815) (by decide +kernel), List.mem_of_getElem? (i := 816) (by decide +kernel)⟩
def lw_privs_2 : List (MethodName × Nat) := [(⟨"WeightedTrees$Grammar", "closeReached", "()V"⟩, 10), (⟨"WeightedTrees", "takeSpareGrammar", "()V"⟩, 7), (⟨"WeightedTrees$Chart", "addRule", "(LWeightedTrees$Grammar;III)V"⟩, 10), (⟨"WeightedTrees$Chart", "matchBody", "(LWeightedTrees$Grammar;III)V"⟩, 10), (⟨"WeightedTrees$Chart", "matchNonterminal", "(IIII)V"⟩, 10), (⟨"WeightedTrees$Chart", "matchTerminal", "(IIII)V"⟩, 10), (⟨"WeightedTrees$Chart", "keepBody", "(LWeightedTrees$Grammar;III)V"⟩, 10), (⟨"WeightedTrees$UnitTable", "addRule", "(LWeightedTrees$Grammar;LWeightedTrees$Chart;I)V"⟩, 1), (⟨"WeightedTrees", "requireNonterminal", "(I)V"⟩, 7), (⟨"WeightedTrees", "requirePart", "(II)V"⟩, 7), (⟨"WeightedTrees$TreeListing", "keepPlace", "(IIII)V"⟩, 5), (⟨"WeightedTrees$TreeListing", "expand", "(LWeightedTrees$Grammar;LWeightedTrees$Chart;I)V"⟩, 5), (⟨"WeightedTreesModel", "take", "(I)I"⟩, 35), (⟨"WeightedTreesModel", "readGrammar", "(I)I"⟩, 35), (⟨"WeightedTreesModel", "ruleLine", "()Z"⟩, 35), (⟨"WeightedTreesModel", "symbol", "(I)I"⟩, 35)]
theorem lw_r2 : ∀ q ∈ lw_privs_2, lw_okq q := List.forall_mem_cons.mpr ⟨lw_p16, List.forall_mem_cons.mpr ⟨lw_p17, List.forall_mem_cons.mpr ⟨lw_p18, List.forall_mem_cons.mpr ⟨lw_p19, List.forall_mem_cons.mpr ⟨lw_p20, List.forall_mem_cons.mpr ⟨lw_p21, List.forall_mem_cons.mpr ⟨lw_p22, List.forall_mem_cons.mpr ⟨lw_p23, List.forall_mem_cons.mpr ⟨lw_p24, List.forall_mem_cons.mpr ⟨lw_p25, List.forall_mem_cons.mpr ⟨lw_p26, List.forall_mem_cons.mpr ⟨lw_p27, List.forall_mem_cons.mpr ⟨lw_p28, List.forall_mem_cons.mpr ⟨lw_p29, List.forall_mem_cons.mpr ⟨lw_p30, List.forall_mem_cons.mpr ⟨lw_p31, fun _ h => absurd h List.not_mem_nil⟩⟩⟩⟩⟩⟩⟩⟩⟩⟩⟩⟩⟩⟩⟩⟩
theorem lw_p32 : lw_okq (⟨"WeightedTreesModel", "next", "(I)Z"⟩, 35) := ⟨⟨by decide +kernel, by decide +kernel⟩, List.mem_of_getElem? (i := 671) (by decide +kernel), List.mem_of_getElem? (i := 819) (by decide +kernel), List.mem_of_getElem? (i := 820) (by decide +kernel)⟩
theorem lw_p33 : lw_okq (⟨"WeightedTreesModel", "body", "(I)Z"⟩, 35) := ⟨⟨by decide +kernel, by decide +kernel⟩, List.mem_of_getElem? (i := 671) (by decide +kernel), List.mem_of_getElem? (i := 823) (by decide +kernel), List.mem_of_getElem? (i := 824) (by decide +kernel)⟩
theorem lw_p34 : lw_okq (⟨"WeightedTreesModel", "number", "()Z"⟩, 35) := ⟨⟨by decide +kernel, by decide +kernel⟩, List.mem_of_getElem? (i := 671) (by decide +kernel), List.mem_of_getElem? (i := 830) (by decide +kernel), List.mem_of_getElem? (i := 831) (by decide +kernel)⟩
theorem lw_p35 : lw_okq (⟨"WeightedTreesModel", "isFigure", "()Z"⟩, 35) := ⟨⟨by decide +kernel, by decide +kernel⟩, List.mem_of_getElem? (i := 671) (by decide +kernel), List.mem_of_getElem? (i := 834) (by decide +kernel), List.mem_of_getElem? (i := 835) (by decide +kernel)⟩
theorem lw_p36 : lw_okq (⟨"WeightedTreesModel", "loops", "()Z"⟩, 35) := ⟨⟨by decide +kernel, by decide +kernel⟩, List.mem_of_getElem? (i := 671) (by decide +kernel), List.mem_of_getElem? (i := 842) (by decide +kernel), List.mem_of_getElem? (i := 843) (by decide +kernel)⟩
theorem lw_p37 : lw_okq (⟨"WeightedTreesModel", "findEmptyable", "()V"⟩, 35) := ⟨⟨by decide +kernel, by decide +kernel⟩, List.mem_of_getElem? (i := 671) (by decide +kernel), List.mem_of_getElem? (i := 846) (by decide +kernel), List.mem_of_getElem? (i := 847) (by decide +kernel)⟩
theorem lw_p38 : lw_okq (⟨"WeightedTreesModel", "emptyBodyCost", "(II)I"⟩, 35) := ⟨⟨by decide +kernel, by decide +kernel⟩, List.mem_of_getElem? (i := 671) (by decide +kernel), List.mem_of_getElem? (i := 850) (by decide +kernel), List.mem_of_getElem? (i := 851) (by decide +kernel)⟩
theorem lw_p39 : lw_okq (⟨"WeightedTreesModel", "isLetter", "(I)Z"⟩, 35) := ⟨⟨by decide +kernel, by decide +kernel⟩, List.mem_of_getElem? (i := 671) (by decide +kernel), List.mem_of_getElem? (i := 854) (by decide +kernel), List.mem_of_getElem? (i := 855) (by decide +kernel)⟩
theorem lw_p40 : lw_okq (⟨"WeightedTreesModel", "fillEmpty", "()V"⟩, 35) := ⟨⟨by decide +kernel, by decide +kernel⟩, List.mem_of_getElem? (i := 671) (by decide +kernel), List.mem_of_getElem? (i := 859) (by decide +kernel), List.mem_of_getElem? (i := 860) (by decide +kernel)⟩
theorem lw_p41 : lw_okq (⟨"WeightedTreesModel", "emptyBody", "(II)J"⟩, 35) := ⟨⟨by decide +kernel, by decide +kernel⟩, List.mem_of_getElem? (i := 671) (by decide +kernel), List.mem_of_getElem? (i := 863) (by decide +kernel), List.mem_of_getElem? (i := 864) (by decide +kernel)⟩
theorem lw_p42 : lw_okq (⟨"WeightedTreesModel", "fillUnits", "()V"⟩, 35) := ⟨⟨by decide +kernel, by decide +kernel⟩, List.mem_of_getElem? (i := 671) (by decide +kernel), List.mem_of_getElem? (i := 867) (by decide +kernel), List.mem_of_getElem? (i := 868) (by decide +kernel)⟩
theorem lw_p43 : lw_okq (⟨"WeightedTreesModel", "fillPart", "(II)V"⟩, 35) := ⟨⟨by decide +kernel, by decide +kernel⟩, List.mem_of_getElem? (i := 671) (by decide +kernel), List.mem_of_getElem? (i := 879) (by decide +kernel), List.mem_of_getElem? (i := 880) (by decide +kernel)⟩
theorem lw_p44 : lw_okq (⟨"WeightedTreesModel", "bodySum", "(III)J"⟩, 35) := ⟨⟨by decide +kernel, by decide +kernel⟩, List.mem_of_getElem? (i := 671) (by decide +kernel), List.mem_of_getElem? (i := 886) (by decide +kernel), List.mem_of_getElem? (i := 887) (by decide +kernel)⟩
theorem lw_p45 : lw_okq (⟨"WeightedTreesModel", "sumOf", "(III)J"⟩, 35) := ⟨⟨by decide +kernel, by decide +kernel⟩, List.mem_of_getElem? (i := 671) (by decide +kernel), List.mem_of_getElem? (i := 890) (by decide +kernel), List.mem_of_getElem? (i := 891) (by decide +kernel)⟩
theorem lw_p46 : lw_okq (⟨"WeightedTreesModel", "bodyCost", "(III)I"⟩, 35) := ⟨⟨by decide +kernel, by decide +kernel⟩, List.mem_of_getElem? (i := 671) (by decide +kernel), List.mem_of_getElem? (i := 894) (by decide +kernel), List.mem_of_getElem? (i := 895) (by decide +kernel)⟩
theorem lw_p47 : lw_okq (⟨"WeightedTreesModel", "costOf", "(III)I"⟩, 35) := ⟨⟨by decide +kernel, by decide +kernel⟩, List.mem_of_getElem? (i := 671) (by decide +kernel), List.mem_of_getElem? (i := 898) (by decide +kernel), List.mem_of_getElem? (i := 899) (by decide +kernel)⟩
def lw_privs_3 : List (MethodName × Nat) := [(⟨"WeightedTreesModel", "next", "(I)Z"⟩, 35), (⟨"WeightedTreesModel", "body", "(I)Z"⟩, 35), (⟨"WeightedTreesModel", "number", "()Z"⟩, 35), (⟨"WeightedTreesModel", "isFigure", "()Z"⟩, 35), (⟨"WeightedTreesModel", "loops", "()Z"⟩, 35), (⟨"WeightedTreesModel", "findEmptyable", "()V"⟩, 35), (⟨"WeightedTreesModel", "emptyBodyCost", "(II)I"⟩, 35), (⟨"WeightedTreesModel", "isLetter", "(I)Z"⟩, 35), (⟨"WeightedTreesModel", "fillEmpty", "()V"⟩, 35), (⟨"WeightedTreesModel", "emptyBody", "(II)J"⟩, 35), (⟨"WeightedTreesModel", "fillUnits", "()V"⟩, 35), (⟨"WeightedTreesModel", "fillPart", "(II)V"⟩, 35), (⟨"WeightedTreesModel", "bodySum", "(III)J"⟩, 35), (⟨"WeightedTreesModel", "sumOf", "(III)J"⟩, 35), (⟨"WeightedTreesModel", "bodyCost", "(III)I"⟩, 35), (⟨"WeightedTreesModel", "costOf", "(III)I"⟩, 35)]
theorem lw_r3 : ∀ q ∈ lw_privs_3, lw_okq q := List.forall_mem_cons.mpr ⟨lw_p32, List.forall_mem_cons.mpr ⟨lw_p33, List.forall_mem_cons.mpr ⟨lw_p34, List.forall_mem_cons.mpr ⟨lw_p35, List.forall_mem_cons.mpr ⟨lw_p36, List.forall_mem_cons.mpr ⟨lw_p37, List.forall_mem_cons.mpr ⟨lw_p38, List.forall_mem_cons.mpr ⟨lw_p39, List.forall_mem_cons.mpr ⟨lw_p40, List.forall_mem_cons.mpr ⟨lw_p41, List.forall_mem_cons.mpr ⟨lw_p42, List.forall_mem_cons.mpr ⟨lw_p43, List.forall_mem_cons.mpr ⟨lw_p44, List.forall_mem_cons.mpr ⟨lw_p45, List.forall_mem_cons.mpr ⟨lw_p46, List.forall_mem_cons.mpr ⟨lw_p47, fun _ h => absurd h List.not_mem_nil⟩⟩⟩⟩⟩⟩⟩⟩⟩⟩⟩⟩⟩⟩⟩⟩
theorem lw_p48 : lw_okq (⟨"WeightedTreesModel", "isSymbol", "(I)Z"⟩, 35) := ⟨⟨by decide +kernel, by decide +kernel⟩, List.mem_of_getElem? (i := 671) (by decide +kernel), List.mem_of_getElem? (i := 910) (by decide +kernel), List.mem_of_getElem? (i := 911) (by decide +kernel)⟩
theorem lw_p49 : lw_okq (⟨"WeightedTreesModel", "refusal", "(III)I"⟩, 35) := ⟨⟨by decide +kernel, by decide +kernel⟩, List.mem_of_getElem? (i := 671) (by decide +kernel), List.mem_of_getElem? (i := 930) (by decide +kernel), List.mem_of_getElem? (i := 931) (by decide +kernel)⟩
theorem lw_p50 : lw_okq (⟨"WeightedTreesModel", "unroll", "(III)V"⟩, 35) := ⟨⟨by decide +kernel, by decide +kernel⟩, List.mem_of_getElem? (i := 671) (by decide +kernel), List.mem_of_getElem? (i := 942) (by decide +kernel), List.mem_of_getElem? (i := 943) (by decide +kernel)⟩
theorem lw_p51 : lw_okq (⟨"WeightedTreesModel", "defer", "(IIII)I"⟩, 35) := ⟨⟨by decide +kernel, by decide +kernel⟩, List.mem_of_getElem? (i := 671) (by decide +kernel), List.mem_of_getElem? (i := 946) (by decide +kernel), List.mem_of_getElem? (i := 947) (by decide +kernel)⟩
theorem lw_p52 : lw_okq (⟨"WeightedTreesModel", "ruleFor", "(III)I"⟩, 35) := ⟨⟨by decide +kernel, by decide +kernel⟩, List.mem_of_getElem? (i := 671) (by decide +kernel), List.mem_of_getElem? (i := 950) (by decide +kernel), List.mem_of_getElem? (i := 951) (by decide +kernel)⟩
theorem lw_p53 : lw_okq (⟨"WeightedTreesModel", "turnOver", "(II)V"⟩, 35) := ⟨⟨by decide +kernel, by decide +kernel⟩, List.mem_of_getElem? (i := 671) (by decide +kernel), List.mem_of_getElem? (i := 954) (by decide +kernel), List.mem_of_getElem? (i := 955) (by decide +kernel)⟩
def lw_privs_4 : List (MethodName × Nat) := [(⟨"WeightedTreesModel", "isSymbol", "(I)Z"⟩, 35), (⟨"WeightedTreesModel", "refusal", "(III)I"⟩, 35), (⟨"WeightedTreesModel", "unroll", "(III)V"⟩, 35), (⟨"WeightedTreesModel", "defer", "(IIII)I"⟩, 35), (⟨"WeightedTreesModel", "ruleFor", "(III)I"⟩, 35), (⟨"WeightedTreesModel", "turnOver", "(II)V"⟩, 35)]
theorem lw_r4 : ∀ q ∈ lw_privs_4, lw_okq q := List.forall_mem_cons.mpr ⟨lw_p48, List.forall_mem_cons.mpr ⟨lw_p49, List.forall_mem_cons.mpr ⟨lw_p50, List.forall_mem_cons.mpr ⟨lw_p51, List.forall_mem_cons.mpr ⟨lw_p52, List.forall_mem_cons.mpr ⟨lw_p53, fun _ h => absurd h List.not_mem_nil⟩⟩⟩⟩⟩⟩
def lw_privs : List (MethodName × Nat) := lw_privs_1 ++ (lw_privs_2 ++ (lw_privs_3 ++ (lw_privs_4)))
def lw_tbl : List Cond := k2_sels lw_privs ++ tables_1
theorem lw_privs_ok : ∀ q ∈ lw_privs, lw_okq q := by
  show ∀ q ∈ lw_privs_1 ++ (lw_privs_2 ++ (lw_privs_3 ++ (lw_privs_4))), lw_okq q
  exact List.forall_mem_append.mpr ⟨lw_r1, List.forall_mem_append.mpr ⟨lw_r2, List.forall_mem_append.mpr ⟨lw_r3, lw_r4⟩⟩⟩
-- ===== end of PART A; then your names; then what follows =====
end
section
/-! Classes, fields, methods, codes: written by program out of the Statement and the listing. -/
def R_Wt : String := "WeightedTrees"
def T_Wt : u_T := fun k => match k with
  | 0 => ("WeightedTrees", "draft", "LWeightedTrees$Draft;", true)
  | 1 => ("WeightedTrees", "chart", "LWeightedTrees$Chart;", true)
  | 2 => ("WeightedTrees", "units", "LWeightedTrees$UnitTable;", true)
  | 3 => ("WeightedTrees", "tree", "LWeightedTrees$TreeListing;", true)
  | 4 => ("WeightedTrees", "grammar", "LWeightedTrees$Grammar;", false)
  | 5 => ("WeightedTrees", "spare", "LWeightedTrees$Grammar;", false)
  | _ => ("WeightedTrees", "wrongLine", "I", false)
def ty_Wt : Nat → FieldType := fun k => match k with
  | 0 => .object "WeightedTrees$Draft"
  | 1 => .object "WeightedTrees$Chart"
  | 2 => .object "WeightedTrees$UnitTable"
  | 3 => .object "WeightedTrees$TreeListing"
  | 4 => .object "WeightedTrees$Grammar"
  | 5 => .object "WeightedTrees$Grammar"
  | _ => .int
def R_Dr : String := "WeightedTrees$Draft"
def T_Dr : u_T := fun k => match k with
  | 0 => ("WeightedTrees$Draft", "characters", "[C", true)
  | _ => ("WeightedTrees$Draft", "length", "I", false)
def ty_Dr : Nat → FieldType := fun k => match k with
  | 0 => .array .char
  | _ => .int
def R_Ch : String := "WeightedTrees$Chart"
def T_Ch : u_T := fun k => match k with
  | 0 => ("WeightedTrees$Chart", "sums", "[J", true)
  | 1 => ("WeightedTrees$Chart", "costs", "[I", true)
  | 2 => ("WeightedTrees$Chart", "rules", "[I", true)
  | 3 => ("WeightedTrees$Chart", "sizes", "[I", true)
  | 4 => ("WeightedTrees$Chart", "lengths", "[I", true)
  | 5 => ("WeightedTrees$Chart", "letters", "[C", true)
  | 6 => ("WeightedTrees$Chart", "textLength", "I", false)
  | 7 => ("WeightedTrees$Chart", "restSums", "[[J", true)
  | 8 => ("WeightedTrees$Chart", "restCosts", "[[I", true)
  | _ => ("WeightedTrees$Chart", "restLengths", "[[I", true)
def ty_Ch : Nat → FieldType := fun k => match k with
  | 0 => .array .long
  | 1 => .array .int
  | 2 => .array .int
  | 3 => .array .int
  | 4 => .array .int
  | 5 => .array .char
  | 6 => .int
  | 7 => .array (.array .long)
  | 8 => .array (.array .int)
  | _ => .array (.array .int)
def R_Ut : String := "WeightedTrees$UnitTable"
def T_Ut : u_T := fun k => match k with
  | _ => ("WeightedTrees$UnitTable", "table", "[J", true)
def ty_Ut : Nat → FieldType := fun k => match k with
  | _ => .array .long
def R_Tl : String := "WeightedTrees$TreeListing"
def T_Tl : u_T := fun k => match k with
  | 0 => ("WeightedTrees$TreeListing", "rules", "[I", true)
  | 1 => ("WeightedTrees$TreeListing", "starts", "[I", true)
  | 2 => ("WeightedTrees$TreeListing", "ends", "[I", true)
  | 3 => ("WeightedTrees$TreeListing", "symbols", "[I", true)
  | _ => ("WeightedTrees$TreeListing", "nodeCount", "I", false)
def ty_Tl : Nat → FieldType := fun k => match k with
  | 0 => .array .int
  | 1 => .array .int
  | 2 => .array .int
  | 3 => .array .int
  | _ => .int
def R_Gr : String := "WeightedTrees$Grammar"
def T_Gr : u_T := fun k => match k with
  | 0 => ("WeightedTrees$Grammar", "heads", "[I", true)
  | 1 => ("WeightedTrees$Grammar", "bodies", "[I", true)
  | 2 => ("WeightedTrees$Grammar", "bodyLengths", "[I", true)
  | 3 => ("WeightedTrees$Grammar", "weights", "[J", true)
  | 4 => ("WeightedTrees$Grammar", "costs", "[I", true)
  | 5 => ("WeightedTrees$Grammar", "capitals", "[I", true)
  | 6 => ("WeightedTrees$Grammar", "order", "[I", true)
  | 7 => ("WeightedTrees$Grammar", "ruleCount", "I", false)
  | 8 => ("WeightedTrees$Grammar", "nonterminalCount", "I", false)
  | _ => ("WeightedTrees$Grammar", "reached", "[I", true)
def ty_Gr : Nat → FieldType := fun k => match k with
  | 0 => .array .int
  | 1 => .array .int
  | 2 => .array .int
  | 3 => .array .long
  | 4 => .array .int
  | 5 => .array .int
  | 6 => .array .int
  | 7 => .int
  | 8 => .int
  | _ => .array .int
def R_Rd : String := "WeightedTrees$GrammarReader"
def T_Rd : u_T := fun k => match k with
  | 0 => ("WeightedTrees$GrammarReader", "source", "LWeightedTrees$Draft;", true)
  | 1 => ("WeightedTrees$GrammarReader", "target", "LWeightedTrees$Grammar;", true)
  | 2 => ("WeightedTrees$GrammarReader", "at", "I", false)
  | _ => ("WeightedTrees$GrammarReader", "end", "I", false)
def ty_Rd : Nat → FieldType := fun k => match k with
  | 0 => .object "WeightedTrees$Draft"
  | 1 => .object "WeightedTrees$Grammar"
  | 2 => .int
  | _ => .int
def R_Md : String := "WeightedTreesModel"
def T_Md : u_T := fun k => match k with
  | 0 => ("WeightedTreesModel", "code", "I", false)
  | 1 => ("WeightedTreesModel", "draft", "[I", true)
  | 2 => ("WeightedTreesModel", "size", "I", false)
  | 3 => ("WeightedTreesModel", "src", "[I", true)
  | 4 => ("WeightedTreesModel", "kept", "[I", true)
  | 5 => ("WeightedTreesModel", "keptSize", "I", false)
  | 6 => ("WeightedTreesModel", "loaded", "Z", false)
  | 7 => ("WeightedTreesModel", "wrongLine", "I", false)
  | 8 => ("WeightedTreesModel", "rules", "I", false)
  | 9 => ("WeightedTreesModel", "heads", "[I", true)
  | 10 => ("WeightedTreesModel", "lengths", "[I", true)
  | 11 => ("WeightedTreesModel", "bodies", "[I", true)
  | 12 => ("WeightedTreesModel", "weights", "[J", true)
  | 13 => ("WeightedTreesModel", "costs", "[I", true)
  | 14 => ("WeightedTreesModel", "symbols", "I", false)
  | 15 => ("WeightedTreesModel", "names", "[I", true)
  | 16 => ("WeightedTreesModel", "hasText", "Z", false)
  | 17 => ("WeightedTreesModel", "letters", "I", false)
  | 18 => ("WeightedTreesModel", "text", "[I", true)
  | 19 => ("WeightedTreesModel", "emptySum", "[J", true)
  | 20 => ("WeightedTreesModel", "emptyCost", "[I", true)
  | 21 => ("WeightedTreesModel", "sums", "[J", true)
  | 22 => ("WeightedTreesModel", "least", "[I", true)
  | 23 => ("WeightedTreesModel", "units", "[J", true)
  | 24 => ("WeightedTreesModel", "upTo", "[J", true)
  | 25 => ("WeightedTreesModel", "upToNext", "[J", true)
  | 26 => ("WeightedTreesModel", "rest", "[I", true)
  | 27 => ("WeightedTreesModel", "nodes", "I", false)
  | 28 => ("WeightedTreesModel", "nodeRule", "[I", true)
  | 29 => ("WeightedTreesModel", "nodeFrom", "[I", true)
  | 30 => ("WeightedTreesModel", "nodeTo", "[I", true)
  | 31 => ("WeightedTreesModel", "waits", "[I", true)
  | 32 => ("WeightedTreesModel", "at", "I", false)
  | 33 => ("WeightedTreesModel", "end", "I", false)
  | _ => ("WeightedTreesModel", "value", "I", false)
def ty_Md : Nat → FieldType := fun k => match k with
  | 0 => .int
  | 1 => .array .int
  | 2 => .int
  | 3 => .array .int
  | 4 => .array .int
  | 5 => .int
  | 6 => .boolean
  | 7 => .int
  | 8 => .int
  | 9 => .array .int
  | 10 => .array .int
  | 11 => .array .int
  | 12 => .array .long
  | 13 => .array .int
  | 14 => .int
  | 15 => .array .int
  | 16 => .boolean
  | 17 => .int
  | 18 => .array .int
  | 19 => .array .long
  | 20 => .array .int
  | 21 => .array .long
  | 22 => .array .int
  | 23 => .array .long
  | 24 => .array .long
  | 25 => .array .long
  | 26 => .array .int
  | 27 => .int
  | 28 => .array .int
  | 29 => .array .int
  | 30 => .array .int
  | 31 => .array .int
  | 32 => .int
  | 33 => .int
  | _ => .int
abbrev rn_cl : List vw_C := [("WeightedTrees", T_Wt, 7), ("WeightedTrees$Draft", T_Dr, 2), ("WeightedTrees$Chart", T_Ch, 10), ("WeightedTrees$UnitTable", T_Ut, 1), ("WeightedTrees$TreeListing", T_Tl, 5), ("WeightedTrees$Grammar", T_Gr, 10), ("WeightedTrees$GrammarReader", T_Rd, 4), ("WeightedTreesModel", T_Md, 35)]
def rn_wk : Cond → Bool
  | .fieldLinkNest .. => true
  | .methodLinkNest .. => true
  | .castable .. => true
  | .declares _ => true
  | .arrayOver (.array _) => true
  | w => goodWord w
def rn_tb : List Cond := lw_tbl.filter rn_wk
theorem rn_in (i : Nat) {w : Cond} (h : tables_1[i]? = some w) (hk : rn_wk w = true) : w ∈ rn_tb := List.mem_filter.mpr ⟨List.mem_append_right _ (List.mem_of_getElem? h), hk⟩
theorem rn_inS (i : Nat) {w : Cond} (h : (k2_sels lw_privs)[i]? = some w) (hk : rn_wk w = true) : w ∈ rn_tb := List.mem_filter.mpr ⟨List.mem_append_left _ (List.mem_of_getElem? h), hk⟩
theorem rn_over {t : FieldType} {args a' : Array Value} {u U : State} (hal : u.vm.Alike U.vm) (h : (Cond.arrayOver (.array t)).before args u = true) : (Cond.arrayOver (.array t)).before a' U = true := by
  simp only [Cond.before, Cond.holds, Cond.value] at h ⊢
  rw [hal.findClass]
  cases hf : u.vm.findClass (FieldType.array t).toString with
  | none => rw [hf] at h; simp at h
  | some comp =>
    rw [hf] at h
    simp only [Option.bind_some] at h ⊢
    rw [hal.findIdx_congr _ (fun _ _ _ _ => rfl)]
    generalize hF : (u.vm.classes.findIdx? fun (x : Class) => match x.kind with | .array component _ => component == comp | _ => false) = fi at h ⊢
    cases fi with
    | none => simp at h
    | some c =>
      simp only [Option.bind_some] at h ⊢
      cases hk : u.vm.classes[c]? with
      | none => rw [hk] at h; simp at h
      | some k =>
        obtain ⟨k', hk', ek⟩ := hal.2.2 _ _ hk
        rw [hk] at h
        rw [hk', hal.findClass]
        have ekind : k'.kind = k.kind := by rw [ek]
        simp only [Option.map_some] at h ⊢
        rw [ekind]
        exact h
theorem rn_warm {w : Cond} {args a' : Array Value} {s U : State} (hk : rn_wk w = true) (h : w.before args s = true) (hW : s.WarmedH U.vm) : w.before a' U = true := by
  unfold rn_wk at hk
  split at hk
  · exact va_Nw.use rfl (va_Nw.warmF hW (va_Nw.of rfl h))
  · exact va_Nw.use rfl (va_Nw.warmM hW (va_Nw.of rfl h))
  · exact va_Nw.use rfl (va_Nw.warmC hW (va_Nw.of rfl h))
  · exact va_Nw.use rfl (va_Nw.warmD hW (va_Nw.of rfl h))
  · exact rn_over hW.alike h
  · exact word_at hW (good_of_word hk) h
def rn_zs : List (String × String × String) := [("java/lang/Throwable", "UNASSIGNED_STACK", "[Ljava/lang/StackTraceElement;"), ("java/lang/Throwable", "SUPPRESSED_SENTINEL", "Ljava/util/List;")]
def rn_strs : List (String × Nat × String) := [("WeightedTrees", 69, "the grammar is wrong"), ("WeightedTrees", 80, "the grammar loops"), ("WeightedTrees", 99, "the draft is no text"), ("WeightedTrees", 101, "there is no grammar"), ("WeightedTrees", 191, "there is no such nonterminal"), ("WeightedTrees", 128, "there is no such rule"), ("WeightedTrees", 193, "there is no such part of a text"), ("WeightedTrees", 157, "there is no tree"), ("WeightedTrees", 169, "there is no such node")]
def rn_ncs : List (String × String) := [("java/lang/IllegalArgumentException", "java/lang/IllegalStateException"), ("java/lang/IllegalArgumentException", "java/lang/IndexOutOfBoundsException"), ("java/lang/IllegalStateException", "java/lang/IllegalArgumentException"), ("java/lang/IllegalStateException", "java/lang/IndexOutOfBoundsException"), ("java/lang/IndexOutOfBoundsException", "java/lang/IllegalArgumentException"), ("java/lang/IndexOutOfBoundsException", "java/lang/IllegalStateException")]
end
section
/-! Methods: name, code, locals, return type, room; what each instruction is. -/
theorem rn_dc {code : ByteArray} {l : List (Nat × Instr × Nat)} (h : ∀ e ∈ l, decode code e.1 = .ok e.2) (k : Nat) {pc : Nat} {i : Instr} {n : Nat} (hk : l[k]? = some (pc, i, n)) : decode code pc = .ok (i, n) := h (pc, i, n) (List.mem_of_getElem? hk)
abbrev M_Wt_init : MethodName × ByteArray × Nat × Option FieldType × Nat × Nat := (⟨"WeightedTrees", "<init>", "()V"⟩, prog_1_method_1_code, 1, none, 2, 44)
abbrev M_Wt_put : MethodName × ByteArray × Nat × Option FieldType × Nat × Nat := (⟨"WeightedTrees", "put", "(IJ)Z"⟩, prog_1_method_2_code, 4, (some .boolean), 2, 46)
abbrev M_Wt_scrap : MethodName × ByteArray × Nat × Option FieldType × Nat × Nat := (⟨"WeightedTrees", "scrap", "()V"⟩, prog_1_method_3_code, 1, none, 1, 20)
abbrev M_Wt_load : MethodName × ByteArray × Nat × Option FieldType × Nat × Nat := (⟨"WeightedTrees", "load", "()I"⟩, prog_1_method_4_code, 2, (some .int), 6, 154)
abbrev M_Wt_wrong : MethodName × ByteArray × Nat × Option FieldType × Nat × Nat := (⟨"WeightedTrees", "wrong", "()I"⟩, prog_1_method_5_code, 1, (some .int), 0, 0)
abbrev M_Wt_parse : MethodName × ByteArray × Nat × Option FieldType × Nat × Nat := (⟨"WeightedTrees", "parse", "()Z"⟩, prog_1_method_6_code, 3, (some .boolean), 6, 156)
abbrev M_Wt_count : MethodName × ByteArray × Nat × Option FieldType × Nat × Nat := (⟨"WeightedTrees", "count", "(I)I"⟩, prog_1_method_7_code, 2, (some .int), 1, 20)
abbrev M_Wt_name : MethodName × ByteArray × Nat × Option FieldType × Nat × Nat := (⟨"WeightedTrees", "name", "(I)I"⟩, prog_1_method_8_code, 2, (some .int), 7, 121)
abbrev M_Wt_weight : MethodName × ByteArray × Nat × Option FieldType × Nat × Nat := (⟨"WeightedTrees", "weight", "(I)J"⟩, prog_1_method_9_code, 2, (some .long), 6, 100)
abbrev M_Wt_empty : MethodName × ByteArray × Nat × Option FieldType × Nat × Nat := (⟨"WeightedTrees", "empty", "(I)J"⟩, prog_1_method_10_code, 2, (some .long), 7, 121)
abbrev M_Wt_unit : MethodName × ByteArray × Nat × Option FieldType × Nat × Nat := (⟨"WeightedTrees", "unit", "(II)J"⟩, prog_1_method_11_code, 3, (some .long), 7, 121)
abbrev M_Wt_inside : MethodName × ByteArray × Nat × Option FieldType × Nat × Nat := (⟨"WeightedTrees", "inside", "(III)J"⟩, prog_1_method_12_code, 4, (some .long), 7, 122)
abbrev M_Wt_cheapest : MethodName × ByteArray × Nat × Option FieldType × Nat × Nat := (⟨"WeightedTrees", "cheapest", "(III)I"⟩, prog_1_method_13_code, 4, (some .int), 7, 122)
abbrev M_Wt_build : MethodName × ByteArray × Nat × Option FieldType × Nat × Nat := (⟨"WeightedTrees", "build", "(III)I"⟩, prog_1_method_14_code, 4, (some .int), 7, 122)
abbrev M_Wt_node : MethodName × ByteArray × Nat × Option FieldType × Nat × Nat := (⟨"WeightedTrees", "node", "(II)I"⟩, prog_1_method_15_code, 3, (some .int), 6, 100)
abbrev M_Wt_hasGrammar : MethodName × ByteArray × Nat × Option FieldType × Nat × Nat := (⟨"WeightedTrees", "hasGrammar", "()Z"⟩, prog_1_method_16_code, 1, (some .boolean), 0, 0)
abbrev M_Wt_takeSpareGrammar : MethodName × ByteArray × Nat × Option FieldType × Nat × Nat := (⟨"WeightedTrees", "takeSpareGrammar", "()V"⟩, prog_1_method_17_code, 2, none, 5, 133)
abbrev M_Wt_requireNonterminal : MethodName × ByteArray × Nat × Option FieldType × Nat × Nat := (⟨"WeightedTrees", "requireNonterminal", "(I)V"⟩, prog_1_method_18_code, 2, none, 6, 100)
abbrev M_Wt_requirePart : MethodName × ByteArray × Nat × Option FieldType × Nat × Nat := (⟨"WeightedTrees", "requirePart", "(II)V"⟩, prog_1_method_19_code, 3, none, 6, 100)
abbrev M_Wt_isCapital : MethodName × ByteArray × Nat × Option FieldType × Nat × Nat := (⟨"WeightedTrees", "isCapital", "(I)Z"⟩, prog_1_method_20_code, 1, (some .boolean), 0, 0)
abbrev M_Wt_isSmallLetter : MethodName × ByteArray × Nat × Option FieldType × Nat × Nat := (⟨"WeightedTrees", "isSmallLetter", "(I)Z"⟩, prog_1_method_21_code, 1, (some .boolean), 0, 0)
abbrev M_Dr_init : MethodName × ByteArray × Nat × Option FieldType × Nat × Nat := (⟨"WeightedTrees$Draft", "<init>", "()V"⟩, prog_3_method_1_code, 1, none, 1, 24)
abbrev M_Dr_clear : MethodName × ByteArray × Nat × Option FieldType × Nat × Nat := (⟨"WeightedTrees$Draft", "clear", "()V"⟩, prog_3_method_2_code, 1, none, 0, 0)
abbrev M_Dr_append : MethodName × ByteArray × Nat × Option FieldType × Nat × Nat := (⟨"WeightedTrees$Draft", "append", "(IJ)Z"⟩, prog_3_method_3_code, 5, (some .boolean), 1, 22)
abbrev M_Dr_isText : MethodName × ByteArray × Nat × Option FieldType × Nat × Nat := (⟨"WeightedTrees$Draft", "isText", "()Z"⟩, prog_3_method_4_code, 2, (some .boolean), 1, 20)
abbrev M_Dr_lineCount : MethodName × ByteArray × Nat × Option FieldType × Nat × Nat := (⟨"WeightedTrees$Draft", "lineCount", "()I"⟩, prog_3_method_5_code, 3, (some .int), 0, 0)
abbrev M_Dr_lineEnd : MethodName × ByteArray × Nat × Option FieldType × Nat × Nat := (⟨"WeightedTrees$Draft", "lineEnd", "(I)I"⟩, prog_3_method_6_code, 3, (some .int), 0, 0)
abbrev M_Dr_codeAt : MethodName × ByteArray × Nat × Option FieldType × Nat × Nat := (⟨"WeightedTrees$Draft", "codeAt", "(JI)I"⟩, prog_3_method_7_code, 3, (some .int), 0, 0)
abbrev M_Dr_isAllowed : MethodName × ByteArray × Nat × Option FieldType × Nat × Nat := (⟨"WeightedTrees$Draft", "isAllowed", "(I)Z"⟩, prog_3_method_8_code, 1, (some .boolean), 0, 0)
abbrev M_Ch_init : MethodName × ByteArray × Nat × Option FieldType × Nat × Nat := (⟨"WeightedTrees$Chart", "<init>", "()V"⟩, prog_2_method_1_code, 1, none, 1, 24)
abbrev M_Ch_cell : MethodName × ByteArray × Nat × Option FieldType × Nat × Nat := (⟨"WeightedTrees$Chart", "cell", "(III)I"⟩, prog_2_method_2_code, 4, (some .int), 0, 0)
abbrev M_Ch_hasTree : MethodName × ByteArray × Nat × Option FieldType × Nat × Nat := (⟨"WeightedTrees$Chart", "hasTree", "(III)Z"⟩, prog_2_method_3_code, 4, (some .boolean), 1, 23)
abbrev M_Ch_emptySum : MethodName × ByteArray × Nat × Option FieldType × Nat × Nat := (⟨"WeightedTrees$Chart", "emptySum", "(I)J"⟩, prog_2_method_4_code, 2, (some .long), 1, 23)
abbrev M_Ch_lengthOf : MethodName × ByteArray × Nat × Option FieldType × Nat × Nat := (⟨"WeightedTrees$Chart", "lengthOf", "(II)I"⟩, prog_2_method_5_code, 3, (some .int), 0, 0)
abbrev M_Ch_dropText : MethodName × ByteArray × Nat × Option FieldType × Nat × Nat := (⟨"WeightedTrees$Chart", "dropText", "()V"⟩, prog_2_method_6_code, 1, none, 0, 0)
abbrev M_Ch_takeText : MethodName × ByteArray × Nat × Option FieldType × Nat × Nat := (⟨"WeightedTrees$Chart", "takeText", "(LWeightedTrees$Draft;)V"⟩, prog_2_method_7_code, 3, none, 0, 0)
abbrev M_Ch_fillText : MethodName × ByteArray × Nat × Option FieldType × Nat × Nat := (⟨"WeightedTrees$Chart", "fillText", "(LWeightedTrees$Grammar;)V"⟩, prog_2_method_8_code, 4, none, 5, 133)
abbrev M_Ch_fillPart : MethodName × ByteArray × Nat × Option FieldType × Nat × Nat := (⟨"WeightedTrees$Chart", "fillPart", "(LWeightedTrees$Grammar;II)V"⟩, prog_2_method_9_code, 6, none, 4, 108)
abbrev M_Ch_addRule : MethodName × ByteArray × Nat × Option FieldType × Nat × Nat := (⟨"WeightedTrees$Chart", "addRule", "(LWeightedTrees$Grammar;III)V"⟩, prog_2_method_10_code, 7, none, 3, 82)
abbrev M_Ch_matchBody : MethodName × ByteArray × Nat × Option FieldType × Nat × Nat := (⟨"WeightedTrees$Chart", "matchBody", "(LWeightedTrees$Grammar;III)V"⟩, prog_2_method_11_code, 10, none, 2, 53)
abbrev M_Ch_matchTerminal : MethodName × ByteArray × Nat × Option FieldType × Nat × Nat := (⟨"WeightedTrees$Chart", "matchTerminal", "(IIII)V"⟩, prog_2_method_12_code, 6, none, 0, 0)
abbrev M_Ch_matchNonterminal : MethodName × ByteArray × Nat × Option FieldType × Nat × Nat := (⟨"WeightedTrees$Chart", "matchNonterminal", "(IIII)V"⟩, prog_2_method_13_code, 11, none, 1, 23)
abbrev M_Ch_keepBody : MethodName × ByteArray × Nat × Option FieldType × Nat × Nat := (⟨"WeightedTrees$Chart", "keepBody", "(LWeightedTrees$Grammar;III)V"⟩, prog_2_method_14_code, 11, none, 1, 23)
abbrev M_Ut_init : MethodName × ByteArray × Nat × Option FieldType × Nat × Nat := (⟨"WeightedTrees$UnitTable", "<init>", "()V"⟩, prog_7_method_1_code, 1, none, 1, 24)
abbrev M_Ut_sum : MethodName × ByteArray × Nat × Option FieldType × Nat × Nat := (⟨"WeightedTrees$UnitTable", "sum", "(II)J"⟩, prog_7_method_2_code, 3, (some .long), 0, 0)
abbrev M_Ut_fill : MethodName × ByteArray × Nat × Option FieldType × Nat × Nat := (⟨"WeightedTrees$UnitTable", "fill", "(LWeightedTrees$Grammar;LWeightedTrees$Chart;)V"⟩, prog_7_method_3_code, 6, none, 4, 100)
abbrev M_Ut_addRule : MethodName × ByteArray × Nat × Option FieldType × Nat × Nat := (⟨"WeightedTrees$UnitTable", "addRule", "(LWeightedTrees$Grammar;LWeightedTrees$Chart;I)V"⟩, prog_7_method_4_code, 10, none, 3, 71)
abbrev M_Ut_emptyProduct : MethodName × ByteArray × Nat × Option FieldType × Nat × Nat := (⟨"WeightedTrees$UnitTable", "emptyProduct", "(LWeightedTrees$Grammar;LWeightedTrees$Chart;II)J"⟩, prog_7_method_5_code, 8, (some .long), 2, 44)
abbrev M_Tl_init : MethodName × ByteArray × Nat × Option FieldType × Nat × Nat := (⟨"WeightedTrees$TreeListing", "<init>", "()V"⟩, prog_6_method_1_code, 1, none, 1, 24)
abbrev M_Tl_clear : MethodName × ByteArray × Nat × Option FieldType × Nat × Nat := (⟨"WeightedTrees$TreeListing", "clear", "()V"⟩, prog_6_method_2_code, 1, none, 0, 0)
abbrev M_Tl_shownCount : MethodName × ByteArray × Nat × Option FieldType × Nat × Nat := (⟨"WeightedTrees$TreeListing", "shownCount", "()I"⟩, prog_6_method_3_code, 1, (some .int), 1, 21)
abbrev M_Tl_list : MethodName × ByteArray × Nat × Option FieldType × Nat × Nat := (⟨"WeightedTrees$TreeListing", "list", "(LWeightedTrees$Grammar;LWeightedTrees$Chart;III)V"⟩, prog_6_method_4_code, 8, none, 2, 54)
abbrev M_Tl_keepPlace : MethodName × ByteArray × Nat × Option FieldType × Nat × Nat := (⟨"WeightedTrees$TreeListing", "keepPlace", "(IIII)V"⟩, prog_6_method_5_code, 5, none, 0, 0)
abbrev M_Tl_expand : MethodName × ByteArray × Nat × Option FieldType × Nat × Nat := (⟨"WeightedTrees$TreeListing", "expand", "(LWeightedTrees$Grammar;LWeightedTrees$Chart;I)V"⟩, prog_6_method_6_code, 11, none, 1, 24)
abbrev M_Gr_init : MethodName × ByteArray × Nat × Option FieldType × Nat × Nat := (⟨"WeightedTrees$Grammar", "<init>", "()V"⟩, prog_4_method_1_code, 1, none, 1, 24)
abbrev M_Gr_clear : MethodName × ByteArray × Nat × Option FieldType × Nat × Nat := (⟨"WeightedTrees$Grammar", "clear", "()V"⟩, prog_4_method_2_code, 1, none, 0, 0)
abbrev M_Gr_symbol : MethodName × ByteArray × Nat × Option FieldType × Nat × Nat := (⟨"WeightedTrees$Grammar", "symbol", "(II)I"⟩, prog_4_method_3_code, 3, (some .int), 0, 0)
abbrev M_Gr_isNonterminal : MethodName × ByteArray × Nat × Option FieldType × Nat × Nat := (⟨"WeightedTrees$Grammar", "isNonterminal", "(I)Z"⟩, prog_4_method_4_code, 1, (some .boolean), 0, 0)
abbrev M_Gr_nonterminalOf : MethodName × ByteArray × Nat × Option FieldType × Nat × Nat := (⟨"WeightedTrees$Grammar", "nonterminalOf", "(I)I"⟩, prog_4_method_5_code, 3, (some .int), 0, 0)
abbrev M_Gr_findOrder : MethodName × ByteArray × Nat × Option FieldType × Nat × Nat := (⟨"WeightedTrees$Grammar", "findOrder", "()Z"⟩, prog_4_method_6_code, 4, (some .boolean), 3, 71)
abbrev M_Gr_hasBit : MethodName × ByteArray × Nat × Option FieldType × Nat × Nat := (⟨"WeightedTrees$Grammar", "hasBit", "(II)Z"⟩, prog_4_method_7_code, 2, (some .boolean), 0, 0)
abbrev M_Gr_emptyable : MethodName × ByteArray × Nat × Option FieldType × Nat × Nat := (⟨"WeightedTrees$Grammar", "emptyable", "()I"⟩, prog_4_method_8_code, 4, (some .int), 2, 47)
abbrev M_Gr_vanishes : MethodName × ByteArray × Nat × Option FieldType × Nat × Nat := (⟨"WeightedTrees$Grammar", "vanishes", "(III)Z"⟩, prog_4_method_9_code, 6, (some .boolean), 1, 22)
abbrev M_Gr_findReached : MethodName × ByteArray × Nat × Option FieldType × Nat × Nat := (⟨"WeightedTrees$Grammar", "findReached", "(I)V"⟩, prog_4_method_10_code, 5, none, 2, 47)
abbrev M_Gr_closeReached : MethodName × ByteArray × Nat × Option FieldType × Nat × Nat := (⟨"WeightedTrees$Grammar", "closeReached", "()V"⟩, prog_4_method_11_code, 3, none, 1, 21)
abbrev M_Rd_init : MethodName × ByteArray × Nat × Option FieldType × Nat × Nat := (⟨"WeightedTrees$GrammarReader", "<init>", "(LWeightedTrees$Draft;LWeightedTrees$Grammar;)V"⟩, prog_5_method_1_code, 3, none, 1, 24)
abbrev M_Rd_firstWrongLine : MethodName × ByteArray × Nat × Option FieldType × Nat × Nat := (⟨"WeightedTrees$GrammarReader", "firstWrongLine", "()I"⟩, prog_5_method_2_code, 3, (some .int), 5, 107)
abbrev M_Rd_isLeftOut : MethodName × ByteArray × Nat × Option FieldType × Nat × Nat := (⟨"WeightedTrees$GrammarReader", "isLeftOut", "()Z"⟩, prog_5_method_3_code, 1, (some .boolean), 2, 41)
abbrev M_Rd_readRule : MethodName × ByteArray × Nat × Option FieldType × Nat × Nat := (⟨"WeightedTrees$GrammarReader", "readRule", "()Z"⟩, prog_5_method_4_code, 3, (some .boolean), 4, 85)
abbrev M_Rd_readHead : MethodName × ByteArray × Nat × Option FieldType × Nat × Nat := (⟨"WeightedTrees$GrammarReader", "readHead", "(I)Z"⟩, prog_5_method_5_code, 2, (some .boolean), 2, 43)
abbrev M_Rd_readBody : MethodName × ByteArray × Nat × Option FieldType × Nat × Nat := (⟨"WeightedTrees$GrammarReader", "readBody", "(I)Z"⟩, prog_5_method_6_code, 4, (some .boolean), 2, 43)
abbrev M_Rd_readSymbol : MethodName × ByteArray × Nat × Option FieldType × Nat × Nat := (⟨"WeightedTrees$GrammarReader", "readSymbol", "()I"⟩, prog_5_method_7_code, 2, (some .int), 1, 22)
abbrev M_Rd_readWeight : MethodName × ByteArray × Nat × Option FieldType × Nat × Nat := (⟨"WeightedTrees$GrammarReader", "readWeight", "(I)Z"⟩, prog_5_method_8_code, 4, (some .boolean), 3, 62)
abbrev M_Rd_readCost : MethodName × ByteArray × Nat × Option FieldType × Nat × Nat := (⟨"WeightedTrees$GrammarReader", "readCost", "(I)Z"⟩, prog_5_method_9_code, 3, (some .boolean), 2, 42)
abbrev M_Rd_readNumber : MethodName × ByteArray × Nat × Option FieldType × Nat × Nat := (⟨"WeightedTrees$GrammarReader", "readNumber", "()I"⟩, prog_5_method_10_code, 3, (some .int), 1, 20)
abbrev M_Rd_inverse : MethodName × ByteArray × Nat × Option FieldType × Nat × Nat := (⟨"WeightedTrees$GrammarReader", "inverse", "(J)J"⟩, prog_5_method_11_code, 5, (some .long), 0, 0)
abbrev M_Rd_seen : MethodName × ByteArray × Nat × Option FieldType × Nat × Nat := (⟨"WeightedTrees$GrammarReader", "seen", "()I"⟩, prog_5_method_12_code, 1, (some .int), 0, 0)
abbrev M_Rd_sees : MethodName × ByteArray × Nat × Option FieldType × Nat × Nat := (⟨"WeightedTrees$GrammarReader", "sees", "(C)Z"⟩, prog_5_method_13_code, 2, (some .boolean), 1, 20)
abbrev M_Rd_skip : MethodName × ByteArray × Nat × Option FieldType × Nat × Nat := (⟨"WeightedTrees$GrammarReader", "skip", "(C)Z"⟩, prog_5_method_14_code, 2, (some .boolean), 2, 41)
abbrev M_Md_init : MethodName × ByteArray × Nat × Option FieldType × Nat × Nat := (⟨"WeightedTreesModel", "<init>", "()V"⟩, prog_9_method_1_code, 1, none, 1, 24)
abbrev M_Md_thrown : MethodName × ByteArray × Nat × Option FieldType × Nat × Nat := (⟨"WeightedTreesModel", "thrown", "()I"⟩, prog_9_method_2_code, 1, (some .int), 0, 0)
abbrev M_Md_put : MethodName × ByteArray × Nat × Option FieldType × Nat × Nat := (⟨"WeightedTreesModel", "put", "(IJ)Z"⟩, prog_9_method_3_code, 7, (some .boolean), 0, 0)
abbrev M_Md_scrap : MethodName × ByteArray × Nat × Option FieldType × Nat × Nat := (⟨"WeightedTreesModel", "scrap", "()V"⟩, prog_9_method_4_code, 1, none, 0, 0)
abbrev M_Md_next : MethodName × ByteArray × Nat × Option FieldType × Nat × Nat := (⟨"WeightedTreesModel", "next", "(I)Z"⟩, prog_9_method_5_code, 3, (some .boolean), 0, 0)
abbrev M_Md_isCapital : MethodName × ByteArray × Nat × Option FieldType × Nat × Nat := (⟨"WeightedTreesModel", "isCapital", "(I)Z"⟩, prog_9_method_6_code, 1, (some .boolean), 0, 0)
abbrev M_Md_isSmall : MethodName × ByteArray × Nat × Option FieldType × Nat × Nat := (⟨"WeightedTreesModel", "isSmall", "(I)Z"⟩, prog_9_method_7_code, 1, (some .boolean), 0, 0)
abbrev M_Md_isFigure : MethodName × ByteArray × Nat × Option FieldType × Nat × Nat := (⟨"WeightedTreesModel", "isFigure", "()Z"⟩, prog_9_method_8_code, 1, (some .boolean), 0, 0)
abbrev M_Md_number : MethodName × ByteArray × Nat × Option FieldType × Nat × Nat := (⟨"WeightedTreesModel", "number", "()Z"⟩, prog_9_method_9_code, 2, (some .boolean), 1, 20)
abbrev M_Md_symbol : MethodName × ByteArray × Nat × Option FieldType × Nat × Nat := (⟨"WeightedTreesModel", "symbol", "(I)I"⟩, prog_9_method_10_code, 3, (some .int), 0, 0)
abbrev M_Md_inverse : MethodName × ByteArray × Nat × Option FieldType × Nat × Nat := (⟨"WeightedTreesModel", "inverse", "(J)J"⟩, prog_9_method_11_code, 5, (some .long), 0, 0)
abbrev M_Md_body : MethodName × ByteArray × Nat × Option FieldType × Nat × Nat := (⟨"WeightedTreesModel", "body", "(I)Z"⟩, prog_9_method_12_code, 3, (some .boolean), 1, 22)
abbrev M_Md_ruleLine : MethodName × ByteArray × Nat × Option FieldType × Nat × Nat := (⟨"WeightedTreesModel", "ruleLine", "()Z"⟩, prog_9_method_13_code, 2, (some .boolean), 2, 44)
abbrev M_Md_readGrammar : MethodName × ByteArray × Nat × Option FieldType × Nat × Nat := (⟨"WeightedTreesModel", "readGrammar", "(I)I"⟩, prog_9_method_14_code, 6, (some .int), 3, 65)
abbrev M_Md_isLetter : MethodName × ByteArray × Nat × Option FieldType × Nat × Nat := (⟨"WeightedTreesModel", "isLetter", "(I)Z"⟩, prog_9_method_15_code, 2, (some .boolean), 0, 0)
abbrev M_Md_emptyBody : MethodName × ByteArray × Nat × Option FieldType × Nat × Nat := (⟨"WeightedTreesModel", "emptyBody", "(II)J"⟩, prog_9_method_16_code, 7, (some .long), 1, 21)
abbrev M_Md_emptyBodyCost : MethodName × ByteArray × Nat × Option FieldType × Nat × Nat := (⟨"WeightedTreesModel", "emptyBodyCost", "(II)I"⟩, prog_9_method_17_code, 7, (some .int), 1, 21)
abbrev M_Md_findEmptyable : MethodName × ByteArray × Nat × Option FieldType × Nat × Nat := (⟨"WeightedTreesModel", "findEmptyable", "()V"⟩, prog_9_method_18_code, 3, none, 2, 47)
abbrev M_Md_loops : MethodName × ByteArray × Nat × Option FieldType × Nat × Nat := (⟨"WeightedTreesModel", "loops", "()Z"⟩, prog_9_method_19_code, 6, (some .boolean), 3, 69)
abbrev M_Md_fillEmpty : MethodName × ByteArray × Nat × Option FieldType × Nat × Nat := (⟨"WeightedTreesModel", "fillEmpty", "()V"⟩, prog_9_method_20_code, 8, none, 2, 47)
abbrev M_Md_fillUnits : MethodName × ByteArray × Nat × Option FieldType × Nat × Nat := (⟨"WeightedTreesModel", "fillUnits", "()V"⟩, prog_9_method_21_code, 9, none, 2, 47)
abbrev M_Md_take : MethodName × ByteArray × Nat × Option FieldType × Nat × Nat := (⟨"WeightedTreesModel", "take", "(I)I"⟩, prog_9_method_22_code, 3, (some .int), 4, 94)
abbrev M_Md_load : MethodName × ByteArray × Nat × Option FieldType × Nat × Nat := (⟨"WeightedTreesModel", "load", "()I"⟩, prog_9_method_23_code, 3, (some .int), 5, 116)
abbrev M_Md_wrong : MethodName × ByteArray × Nat × Option FieldType × Nat × Nat := (⟨"WeightedTreesModel", "wrong", "()I"⟩, prog_9_method_24_code, 1, (some .int), 0, 0)
abbrev M_Md_cell : MethodName × ByteArray × Nat × Option FieldType × Nat × Nat := (⟨"WeightedTreesModel", "cell", "(III)I"⟩, prog_9_method_25_code, 3, (some .int), 0, 0)
abbrev M_Md_sumOf : MethodName × ByteArray × Nat × Option FieldType × Nat × Nat := (⟨"WeightedTreesModel", "sumOf", "(III)J"⟩, prog_9_method_26_code, 4, (some .long), 1, 22)
abbrev M_Md_costOf : MethodName × ByteArray × Nat × Option FieldType × Nat × Nat := (⟨"WeightedTreesModel", "costOf", "(III)I"⟩, prog_9_method_27_code, 4, (some .int), 1, 22)
abbrev M_Md_bodySum : MethodName × ByteArray × Nat × Option FieldType × Nat × Nat := (⟨"WeightedTreesModel", "bodySum", "(III)J"⟩, prog_9_method_28_code, 7, (some .long), 2, 45)
abbrev M_Md_bodyCost : MethodName × ByteArray × Nat × Option FieldType × Nat × Nat := (⟨"WeightedTreesModel", "bodyCost", "(III)I"⟩, prog_9_method_29_code, 11, (some .int), 2, 45)
abbrev M_Md_fillPart : MethodName × ByteArray × Nat × Option FieldType × Nat × Nat := (⟨"WeightedTreesModel", "fillPart", "(II)V"⟩, prog_9_method_30_code, 10, none, 3, 75)
abbrev M_Md_parse : MethodName × ByteArray × Nat × Option FieldType × Nat × Nat := (⟨"WeightedTreesModel", "parse", "()Z"⟩, prog_9_method_31_code, 5, (some .boolean), 4, 104)
abbrev M_Md_ruleFor : MethodName × ByteArray × Nat × Option FieldType × Nat × Nat := (⟨"WeightedTreesModel", "ruleFor", "(III)I"⟩, prog_9_method_32_code, 7, (some .int), 3, 75)
abbrev M_Md_defer : MethodName × ByteArray × Nat × Option FieldType × Nat × Nat := (⟨"WeightedTreesModel", "defer", "(IIII)I"⟩, prog_9_method_33_code, 5, (some .int), 0, 0)
abbrev M_Md_turnOver : MethodName × ByteArray × Nat × Option FieldType × Nat × Nat := (⟨"WeightedTreesModel", "turnOver", "(II)V"⟩, prog_9_method_34_code, 7, none, 0, 0)
abbrev M_Md_unroll : MethodName × ByteArray × Nat × Option FieldType × Nat × Nat := (⟨"WeightedTreesModel", "unroll", "(III)V"⟩, prog_9_method_35_code, 14, none, 4, 101)
abbrev M_Md_isSymbol : MethodName × ByteArray × Nat × Option FieldType × Nat × Nat := (⟨"WeightedTreesModel", "isSymbol", "(I)Z"⟩, prog_9_method_36_code, 2, (some .boolean), 0, 0)
abbrev M_Md_refusal : MethodName × ByteArray × Nat × Option FieldType × Nat × Nat := (⟨"WeightedTreesModel", "refusal", "(III)I"⟩, prog_9_method_37_code, 4, (some .int), 1, 21)
abbrev M_Md_count : MethodName × ByteArray × Nat × Option FieldType × Nat × Nat := (⟨"WeightedTreesModel", "count", "(I)I"⟩, prog_9_method_38_code, 2, (some .int), 0, 0)
abbrev M_Md_name : MethodName × ByteArray × Nat × Option FieldType × Nat × Nat := (⟨"WeightedTreesModel", "name", "(I)I"⟩, prog_9_method_39_code, 2, (some .int), 1, 21)
abbrev M_Md_weight : MethodName × ByteArray × Nat × Option FieldType × Nat × Nat := (⟨"WeightedTreesModel", "weight", "(I)J"⟩, prog_9_method_40_code, 2, (some .long), 0, 0)
abbrev M_Md_empty : MethodName × ByteArray × Nat × Option FieldType × Nat × Nat := (⟨"WeightedTreesModel", "empty", "(I)J"⟩, prog_9_method_41_code, 2, (some .long), 1, 21)
abbrev M_Md_unit : MethodName × ByteArray × Nat × Option FieldType × Nat × Nat := (⟨"WeightedTreesModel", "unit", "(II)J"⟩, prog_9_method_42_code, 3, (some .long), 1, 21)
abbrev M_Md_inside : MethodName × ByteArray × Nat × Option FieldType × Nat × Nat := (⟨"WeightedTreesModel", "inside", "(III)J"⟩, prog_9_method_43_code, 4, (some .long), 2, 45)
abbrev M_Md_cheapest : MethodName × ByteArray × Nat × Option FieldType × Nat × Nat := (⟨"WeightedTreesModel", "cheapest", "(III)I"⟩, prog_9_method_44_code, 4, (some .int), 2, 45)
abbrev M_Md_build : MethodName × ByteArray × Nat × Option FieldType × Nat × Nat := (⟨"WeightedTreesModel", "build", "(III)I"⟩, prog_9_method_45_code, 4, (some .int), 5, 134)
abbrev M_Md_node : MethodName × ByteArray × Nat × Option FieldType × Nat × Nat := (⟨"WeightedTreesModel", "node", "(II)I"⟩, prog_9_method_46_code, 3, (some .int), 0, 0)
abbrev M_Lw_load : MethodName × ByteArray × Nat × Option FieldType × Nat × Nat := (⟨"WeightedTreesLaw", "load", "(LWeightedTrees;[J)I"⟩, method_3_code, 3, (some .int), 7, 175)
abbrev M_Lw_parse : MethodName × ByteArray × Nat × Option FieldType × Nat × Nat := (⟨"WeightedTreesLaw", "parse", "(LWeightedTrees;[J)I"⟩, method_4_code, 3, (some .int), 7, 178)
abbrev M_Lw_name : MethodName × ByteArray × Nat × Option FieldType × Nat × Nat := (⟨"WeightedTreesLaw", "name", "(LWeightedTrees;I[J)I"⟩, method_5_code, 4, (some .int), 8, 142)
abbrev M_Lw_weight : MethodName × ByteArray × Nat × Option FieldType × Nat × Nat := (⟨"WeightedTreesLaw", "weight", "(LWeightedTrees;I[J)I"⟩, method_6_code, 4, (some .int), 7, 121)
abbrev M_Lw_empty : MethodName × ByteArray × Nat × Option FieldType × Nat × Nat := (⟨"WeightedTreesLaw", "empty", "(LWeightedTrees;I[J)I"⟩, method_7_code, 4, (some .int), 8, 142)
abbrev M_Lw_unit : MethodName × ByteArray × Nat × Option FieldType × Nat × Nat := (⟨"WeightedTreesLaw", "unit", "(LWeightedTrees;II[J)I"⟩, method_8_code, 5, (some .int), 8, 143)
abbrev M_Lw_inside : MethodName × ByteArray × Nat × Option FieldType × Nat × Nat := (⟨"WeightedTreesLaw", "inside", "(LWeightedTrees;III[J)I"⟩, method_9_code, 6, (some .int), 8, 145)
abbrev M_Lw_cheapest : MethodName × ByteArray × Nat × Option FieldType × Nat × Nat := (⟨"WeightedTreesLaw", "cheapest", "(LWeightedTrees;III[J)I"⟩, method_10_code, 6, (some .int), 8, 145)
abbrev M_Lw_build : MethodName × ByteArray × Nat × Option FieldType × Nat × Nat := (⟨"WeightedTreesLaw", "build", "(LWeightedTrees;III[J)I"⟩, method_11_code, 6, (some .int), 8, 145)
abbrev M_Lw_node : MethodName × ByteArray × Nat × Option FieldType × Nat × Nat := (⟨"WeightedTreesLaw", "node", "(LWeightedTrees;II[J)I"⟩, method_12_code, 5, (some .int), 7, 122)
abbrev M_Ji_bitCount : MethodName × ByteArray × Nat × Option FieldType × Nat × Nat := (⟨"java/lang/Integer", "bitCount", "(I)I"⟩, prog_14_method_49_code, 1, (some .int), 0, 0)
abbrev M_Jm_min : MethodName × ByteArray × Nat × Option FieldType × Nat × Nat := (⟨"java/lang/Math", "min", "(II)I"⟩, prog_15_method_69_code, 2, (some .int), 0, 0)
abbrev M_Lw_law : MethodName × ByteArray × Nat × Option FieldType × Nat × Nat := (⟨"WeightedTreesLaw", "law", "([I)Z"⟩, code, 8, (some .boolean), 11, 402)
def dt_Wt_init : List (Nat × Instr × Nat) := [(0, .aload_n 0, 1), (1, .invokespecial 1, 3), (4, .aload_n 0, 1), (5, .new 7, 3), (8, .dup, 1), (9, .invokespecial 9, 3), (12, .putfield 10, 3), (15, .aload_n 0, 1), (16, .new 16, 3), (19, .dup, 1), (20, .invokespecial 18, 3), (23, .putfield 19, 3), (26, .aload_n 0, 1), (27, .new 23, 3), (30, .dup, 1), (31, .invokespecial 25, 3), (34, .putfield 26, 3), (37, .aload_n 0, 1), (38, .new 30, 3), (41, .dup, 1), (42, .invokespecial 32, 3), (45, .putfield 33, 3), (48, .aload_n 0, 1), (49, .new 37, 3), (52, .dup, 1), (53, .invokespecial 39, 3), (56, .putfield 40, 3), (59, .aload_n 0, 1), (60, .new 37, 3), (63, .dup, 1), (64, .invokespecial 39, 3), (67, .putfield 44, 3), (70, .aload_n 0, 1), (71, .iconst 0, 1), (72, .putfield 47, 3), (75, .return_, 1)]
theorem dt_Wt_init_ok : ∀ e ∈ dt_Wt_init, decode prog_1_method_1_code e.1 = .ok e.2 := by decide +kernel
theorem dc_Wt_init (k : Nat) {pc : Nat} {i : Instr} {n : Nat} (h : dt_Wt_init[k]? = some (pc, i, n)) : decode prog_1_method_1_code pc = .ok (i, n) := rn_dc dt_Wt_init_ok k h
def dt_Wt_put : List (Nat × Instr × Nat) := [(0, .aload_n 0, 1), (1, .getfield 10, 3), (4, .iload_n 1, 1), (5, .lload_n 2, 1), (6, .invokevirtual 51, 3), (9, .ireturn, 1)]
theorem dt_Wt_put_ok : ∀ e ∈ dt_Wt_put, decode prog_1_method_2_code e.1 = .ok e.2 := by decide +kernel
theorem dc_Wt_put (k : Nat) {pc : Nat} {i : Instr} {n : Nat} (h : dt_Wt_put[k]? = some (pc, i, n)) : decode prog_1_method_2_code pc = .ok (i, n) := rn_dc dt_Wt_put_ok k h
def dt_Wt_scrap : List (Nat × Instr × Nat) := [(0, .aload_n 0, 1), (1, .getfield 10, 3), (4, .invokevirtual 55, 3), (7, .return_, 1)]
theorem dt_Wt_scrap_ok : ∀ e ∈ dt_Wt_scrap, decode prog_1_method_3_code e.1 = .ok e.2 := by decide +kernel
theorem dc_Wt_scrap (k : Nat) {pc : Nat} {i : Instr} {n : Nat} (h : dt_Wt_scrap[k]? = some (pc, i, n)) : decode prog_1_method_3_code pc = .ok (i, n) := rn_dc dt_Wt_scrap_ok k h
def dt_Wt_load : List (Nat × Instr × Nat) := [(0, .new 58, 3), (3, .dup, 1), (4, .aload_n 0, 1), (5, .getfield 10, 3), (8, .aload_n 0, 1), (9, .getfield 44, 3), (12, .invokespecial 60, 3), (15, .invokevirtual 63, 3), (18, .istore_n 1, 1), (19, .aload_n 0, 1), (20, .getfield 10, 3), (23, .invokevirtual 55, 3), (26, .iload_n 1, 1), (27, .ifCond .eq (18), 3), (30, .aload_n 0, 1), (31, .iload_n 1, 1), (32, .putfield 47, 3), (35, .new 67, 3), (38, .dup, 1), (39, .ldc 69, 2), (41, .invokespecial 71, 3), (44, .athrow, 1), (45, .aload_n 0, 1), (46, .getfield 44, 3), (49, .invokevirtual 74, 3), (52, .ifCond .ne (13), 3), (55, .new 78, 3), (58, .dup, 1), (59, .ldc 80, 2), (61, .invokespecial 82, 3), (64, .athrow, 1), (65, .aload_n 0, 1), (66, .invokevirtual 83, 3), (69, .aload_n 0, 1), (70, .getfield 40, 3), (73, .getfield 86, 3), (76, .ireturn, 1)]
theorem dt_Wt_load_ok : ∀ e ∈ dt_Wt_load, decode prog_1_method_4_code e.1 = .ok e.2 := by decide +kernel
theorem dc_Wt_load (k : Nat) {pc : Nat} {i : Instr} {n : Nat} (h : dt_Wt_load[k]? = some (pc, i, n)) : decode prog_1_method_4_code pc = .ok (i, n) := rn_dc dt_Wt_load_ok k h
def dt_Wt_wrong : List (Nat × Instr × Nat) := [(0, .aload_n 0, 1), (1, .getfield 47, 3), (4, .ireturn, 1)]
theorem dt_Wt_wrong_ok : ∀ e ∈ dt_Wt_wrong, decode prog_1_method_5_code e.1 = .ok e.2 := by decide +kernel
theorem dc_Wt_wrong (k : Nat) {pc : Nat} {i : Instr} {n : Nat} (h : dt_Wt_wrong[k]? = some (pc, i, n)) : decode prog_1_method_5_code pc = .ok (i, n) := rn_dc dt_Wt_wrong_ok k h
def dt_Wt_parse : List (Nat × Instr × Nat) := [(0, .aload_n 0, 1), (1, .getfield 10, 3), (4, .invokevirtual 89, 3), (7, .istore_n 1, 1), (8, .iload_n 1, 1), (9, .ifCond .eq (14), 3), (12, .aload_n 0, 1), (13, .invokevirtual 92, 3), (16, .ifCond .eq (7), 3), (19, .iconst 1, 1), (20, .goto (4), 3), (23, .iconst 0, 1), (24, .istore_n 2, 1), (25, .iload_n 2, 1), (26, .ifCond .eq (14), 3), (29, .aload_n 0, 1), (30, .getfield 19, 3), (33, .aload_n 0, 1), (34, .getfield 10, 3), (37, .invokevirtual 95, 3), (40, .aload_n 0, 1), (41, .getfield 10, 3), (44, .invokevirtual 55, 3), (47, .iload_n 1, 1), (48, .ifCond .ne (13), 3), (51, .new 67, 3), (54, .dup, 1), (55, .ldc 99, 2), (57, .invokespecial 71, 3), (60, .athrow, 1), (61, .iload_n 2, 1), (62, .ifCond .ne (13), 3), (65, .new 78, 3), (68, .dup, 1), (69, .ldc 101, 2), (71, .invokespecial 82, 3), (74, .athrow, 1), (75, .aload_n 0, 1), (76, .getfield 33, 3), (79, .invokevirtual 103, 3), (82, .aload_n 0, 1), (83, .getfield 19, 3), (86, .aload_n 0, 1), (87, .getfield 40, 3), (90, .invokevirtual 104, 3), (93, .aload_n 0, 1), (94, .getfield 19, 3), (97, .iconst 0, 1), (98, .iconst 0, 1), (99, .aload_n 0, 1), (100, .getfield 19, 3), (103, .getfield 108, 3), (106, .invokevirtual 111, 3), (109, .ireturn, 1)]
theorem dt_Wt_parse_ok : ∀ e ∈ dt_Wt_parse, decode prog_1_method_6_code e.1 = .ok e.2 := by decide +kernel
theorem dc_Wt_parse (k : Nat) {pc : Nat} {i : Instr} {n : Nat} (h : dt_Wt_parse[k]? = some (pc, i, n)) : decode prog_1_method_6_code pc = .ok (i, n) := rn_dc dt_Wt_parse_ok k h
def dt_Wt_count : List (Nat × Instr × Nat) := [(0, .iload_n 1, 1), (1, .tableswitch (73) (0) (2) #[27, 46, 65], 27), (28, .aload_n 0, 1), (29, .invokevirtual 92, 3), (32, .ifCond .eq (13), 3), (35, .aload_n 0, 1), (36, .getfield 40, 3), (39, .getfield 86, 3), (42, .goto (4), 3), (45, .iconst (-1), 1), (46, .ireturn, 1), (47, .aload_n 0, 1), (48, .invokevirtual 92, 3), (51, .ifCond .eq (13), 3), (54, .aload_n 0, 1), (55, .getfield 40, 3), (58, .getfield 115, 3), (61, .goto (4), 3), (64, .iconst (-1), 1), (65, .ireturn, 1), (66, .aload_n 0, 1), (67, .getfield 19, 3), (70, .getfield 108, 3), (73, .ireturn, 1), (74, .iconst (-1), 1), (75, .ireturn, 1)]
theorem dt_Wt_count_ok : ∀ e ∈ dt_Wt_count, decode prog_1_method_7_code e.1 = .ok e.2 := by decide +kernel
theorem dc_Wt_count (k : Nat) {pc : Nat} {i : Instr} {n : Nat} (h : dt_Wt_count[k]? = some (pc, i, n)) : decode prog_1_method_7_code pc = .ok (i, n) := rn_dc dt_Wt_count_ok k h
def dt_Wt_name : List (Nat × Instr × Nat) := [(0, .aload_n 0, 1), (1, .iload_n 1, 1), (2, .invokevirtual 118, 3), (5, .aload_n 0, 1), (6, .getfield 40, 3), (9, .getfield 122, 3), (12, .iload_n 1, 1), (13, .iaload, 1), (14, .ireturn, 1)]
theorem dt_Wt_name_ok : ∀ e ∈ dt_Wt_name, decode prog_1_method_8_code e.1 = .ok e.2 := by decide +kernel
theorem dc_Wt_name (k : Nat) {pc : Nat} {i : Instr} {n : Nat} (h : dt_Wt_name[k]? = some (pc, i, n)) : decode prog_1_method_8_code pc = .ok (i, n) := rn_dc dt_Wt_name_ok k h
def dt_Wt_weight : List (Nat × Instr × Nat) := [(0, .iload_n 1, 1), (1, .ifCond .lt (14), 3), (4, .iload_n 1, 1), (5, .aload_n 0, 1), (6, .getfield 40, 3), (9, .getfield 86, 3), (12, .if_icmp .lt (13), 3), (15, .new 126, 3), (18, .dup, 1), (19, .ldc 128, 2), (21, .invokespecial 130, 3), (24, .athrow, 1), (25, .aload_n 0, 1), (26, .getfield 40, 3), (29, .getfield 131, 3), (32, .iload_n 1, 1), (33, .laload, 1), (34, .lreturn, 1)]
theorem dt_Wt_weight_ok : ∀ e ∈ dt_Wt_weight, decode prog_1_method_9_code e.1 = .ok e.2 := by decide +kernel
theorem dc_Wt_weight (k : Nat) {pc : Nat} {i : Instr} {n : Nat} (h : dt_Wt_weight[k]? = some (pc, i, n)) : decode prog_1_method_9_code pc = .ok (i, n) := rn_dc dt_Wt_weight_ok k h
def dt_Wt_empty : List (Nat × Instr × Nat) := [(0, .aload_n 0, 1), (1, .iload_n 1, 1), (2, .invokevirtual 118, 3), (5, .aload_n 0, 1), (6, .getfield 19, 3), (9, .iload_n 1, 1), (10, .invokevirtual 135, 3), (13, .lreturn, 1)]
theorem dt_Wt_empty_ok : ∀ e ∈ dt_Wt_empty, decode prog_1_method_10_code e.1 = .ok e.2 := by decide +kernel
theorem dc_Wt_empty (k : Nat) {pc : Nat} {i : Instr} {n : Nat} (h : dt_Wt_empty[k]? = some (pc, i, n)) : decode prog_1_method_10_code pc = .ok (i, n) := rn_dc dt_Wt_empty_ok k h
def dt_Wt_unit : List (Nat × Instr × Nat) := [(0, .aload_n 0, 1), (1, .iload_n 1, 1), (2, .invokevirtual 118, 3), (5, .aload_n 0, 1), (6, .iload_n 2, 1), (7, .invokevirtual 118, 3), (10, .aload_n 0, 1), (11, .getfield 26, 3), (14, .iload_n 1, 1), (15, .iload_n 2, 1), (16, .invokevirtual 139, 3), (19, .lreturn, 1)]
theorem dt_Wt_unit_ok : ∀ e ∈ dt_Wt_unit, decode prog_1_method_11_code e.1 = .ok e.2 := by decide +kernel
theorem dc_Wt_unit (k : Nat) {pc : Nat} {i : Instr} {n : Nat} (h : dt_Wt_unit[k]? = some (pc, i, n)) : decode prog_1_method_11_code pc = .ok (i, n) := rn_dc dt_Wt_unit_ok k h
def dt_Wt_inside : List (Nat × Instr × Nat) := [(0, .aload_n 0, 1), (1, .iload_n 1, 1), (2, .invokevirtual 118, 3), (5, .aload_n 0, 1), (6, .iload_n 2, 1), (7, .iload_n 3, 1), (8, .invokevirtual 143, 3), (11, .aload_n 0, 1), (12, .getfield 19, 3), (15, .getfield 147, 3), (18, .iload_n 1, 1), (19, .iload_n 2, 1), (20, .iload_n 3, 1), (21, .invokestatic 150, 3), (24, .laload, 1), (25, .lreturn, 1)]
theorem dt_Wt_inside_ok : ∀ e ∈ dt_Wt_inside, decode prog_1_method_12_code e.1 = .ok e.2 := by decide +kernel
theorem dc_Wt_inside (k : Nat) {pc : Nat} {i : Instr} {n : Nat} (h : dt_Wt_inside[k]? = some (pc, i, n)) : decode prog_1_method_12_code pc = .ok (i, n) := rn_dc dt_Wt_inside_ok k h
def dt_Wt_cheapest : List (Nat × Instr × Nat) := [(0, .aload_n 0, 1), (1, .iload_n 1, 1), (2, .invokevirtual 118, 3), (5, .aload_n 0, 1), (6, .iload_n 2, 1), (7, .iload_n 3, 1), (8, .invokevirtual 143, 3), (11, .aload_n 0, 1), (12, .getfield 19, 3), (15, .getfield 154, 3), (18, .iload_n 1, 1), (19, .iload_n 2, 1), (20, .iload_n 3, 1), (21, .invokestatic 150, 3), (24, .iaload, 1), (25, .ireturn, 1)]
theorem dt_Wt_cheapest_ok : ∀ e ∈ dt_Wt_cheapest, decode prog_1_method_13_code e.1 = .ok e.2 := by decide +kernel
theorem dc_Wt_cheapest (k : Nat) {pc : Nat} {i : Instr} {n : Nat} (h : dt_Wt_cheapest[k]? = some (pc, i, n)) : decode prog_1_method_13_code pc = .ok (i, n) := rn_dc dt_Wt_cheapest_ok k h
def dt_Wt_build : List (Nat × Instr × Nat) := [(0, .aload_n 0, 1), (1, .iload_n 1, 1), (2, .invokevirtual 118, 3), (5, .aload_n 0, 1), (6, .iload_n 2, 1), (7, .iload_n 3, 1), (8, .invokevirtual 143, 3), (11, .aload_n 0, 1), (12, .getfield 19, 3), (15, .iload_n 1, 1), (16, .iload_n 2, 1), (17, .iload_n 3, 1), (18, .invokevirtual 111, 3), (21, .ifCond .ne (13), 3), (24, .new 78, 3), (27, .dup, 1), (28, .ldc 157, 2), (30, .invokespecial 82, 3), (33, .athrow, 1), (34, .aload_n 0, 1), (35, .getfield 33, 3), (38, .aload_n 0, 1), (39, .getfield 40, 3), (42, .aload_n 0, 1), (43, .getfield 19, 3), (46, .iload_n 1, 1), (47, .iload_n 2, 1), (48, .iload_n 3, 1), (49, .invokevirtual 159, 3), (52, .aload_n 0, 1), (53, .getfield 33, 3), (56, .getfield 163, 3), (59, .ireturn, 1)]
theorem dt_Wt_build_ok : ∀ e ∈ dt_Wt_build, decode prog_1_method_14_code e.1 = .ok e.2 := by decide +kernel
theorem dc_Wt_build (k : Nat) {pc : Nat} {i : Instr} {n : Nat} (h : dt_Wt_build[k]? = some (pc, i, n)) : decode prog_1_method_14_code pc = .ok (i, n) := rn_dc dt_Wt_build_ok k h
def dt_Wt_node : List (Nat × Instr × Nat) := [(0, .iload_n 1, 1), (1, .ifCond .lt (14), 3), (4, .iload_n 1, 1), (5, .aload_n 0, 1), (6, .getfield 33, 3), (9, .invokevirtual 166, 3), (12, .if_icmp .lt (13), 3), (15, .new 126, 3), (18, .dup, 1), (19, .ldc 169, 2), (21, .invokespecial 130, 3), (24, .athrow, 1), (25, .iload_n 2, 1), (26, .tableswitch (56) (0) (2) #[26, 36, 46], 26), (52, .aload_n 0, 1), (53, .getfield 33, 3), (56, .getfield 171, 3), (59, .iload_n 1, 1), (60, .iaload, 1), (61, .ireturn, 1), (62, .aload_n 0, 1), (63, .getfield 33, 3), (66, .getfield 174, 3), (69, .iload_n 1, 1), (70, .iaload, 1), (71, .ireturn, 1), (72, .aload_n 0, 1), (73, .getfield 33, 3), (76, .getfield 177, 3), (79, .iload_n 1, 1), (80, .iaload, 1), (81, .ireturn, 1), (82, .iconst (-1), 1), (83, .ireturn, 1)]
theorem dt_Wt_node_ok : ∀ e ∈ dt_Wt_node, decode prog_1_method_15_code e.1 = .ok e.2 := by decide +kernel
theorem dc_Wt_node (k : Nat) {pc : Nat} {i : Instr} {n : Nat} (h : dt_Wt_node[k]? = some (pc, i, n)) : decode prog_1_method_15_code pc = .ok (i, n) := rn_dc dt_Wt_node_ok k h
def dt_Wt_hasGrammar : List (Nat × Instr × Nat) := [(0, .aload_n 0, 1), (1, .getfield 40, 3), (4, .getfield 86, 3), (7, .ifCond .le (7), 3), (10, .iconst 1, 1), (11, .goto (4), 3), (14, .iconst 0, 1), (15, .ireturn, 1)]
theorem dt_Wt_hasGrammar_ok : ∀ e ∈ dt_Wt_hasGrammar, decode prog_1_method_16_code e.1 = .ok e.2 := by decide +kernel
theorem dc_Wt_hasGrammar (k : Nat) {pc : Nat} {i : Instr} {n : Nat} (h : dt_Wt_hasGrammar[k]? = some (pc, i, n)) : decode prog_1_method_16_code pc = .ok (i, n) := rn_dc dt_Wt_hasGrammar_ok k h
def dt_Wt_takeSpareGrammar : List (Nat × Instr × Nat) := [(0, .aload_n 0, 1), (1, .getfield 40, 3), (4, .astore_n 1, 1), (5, .aload_n 0, 1), (6, .aload_n 0, 1), (7, .getfield 44, 3), (10, .putfield 40, 3), (13, .aload_n 0, 1), (14, .aload_n 1, 1), (15, .putfield 44, 3), (18, .aload_n 0, 1), (19, .getfield 33, 3), (22, .invokevirtual 103, 3), (25, .aload_n 0, 1), (26, .getfield 19, 3), (29, .invokevirtual 180, 3), (32, .aload_n 0, 1), (33, .getfield 19, 3), (36, .aload_n 0, 1), (37, .getfield 40, 3), (40, .iconst 0, 1), (41, .iconst 0, 1), (42, .invokevirtual 183, 3), (45, .aload_n 0, 1), (46, .getfield 26, 3), (49, .aload_n 0, 1), (50, .getfield 40, 3), (53, .aload_n 0, 1), (54, .getfield 19, 3), (57, .invokevirtual 187, 3), (60, .return_, 1)]
theorem dt_Wt_takeSpareGrammar_ok : ∀ e ∈ dt_Wt_takeSpareGrammar, decode prog_1_method_17_code e.1 = .ok e.2 := by decide +kernel
theorem dc_Wt_takeSpareGrammar (k : Nat) {pc : Nat} {i : Instr} {n : Nat} (h : dt_Wt_takeSpareGrammar[k]? = some (pc, i, n)) : decode prog_1_method_17_code pc = .ok (i, n) := rn_dc dt_Wt_takeSpareGrammar_ok k h
def dt_Wt_requireNonterminal : List (Nat × Instr × Nat) := [(0, .iload_n 1, 1), (1, .ifCond .lt (14), 3), (4, .iload_n 1, 1), (5, .aload_n 0, 1), (6, .getfield 40, 3), (9, .getfield 115, 3), (12, .if_icmp .lt (13), 3), (15, .new 126, 3), (18, .dup, 1), (19, .ldc 191, 2), (21, .invokespecial 130, 3), (24, .athrow, 1), (25, .return_, 1)]
theorem dt_Wt_requireNonterminal_ok : ∀ e ∈ dt_Wt_requireNonterminal, decode prog_1_method_18_code e.1 = .ok e.2 := by decide +kernel
theorem dc_Wt_requireNonterminal (k : Nat) {pc : Nat} {i : Instr} {n : Nat} (h : dt_Wt_requireNonterminal[k]? = some (pc, i, n)) : decode prog_1_method_18_code pc = .ok (i, n) := rn_dc dt_Wt_requireNonterminal_ok k h
def dt_Wt_requirePart : List (Nat × Instr × Nat) := [(0, .iload_n 1, 1), (1, .ifCond .lt (19), 3), (4, .iload_n 1, 1), (5, .iload_n 2, 1), (6, .if_icmp .gt (14), 3), (9, .iload_n 2, 1), (10, .aload_n 0, 1), (11, .getfield 19, 3), (14, .getfield 108, 3), (17, .if_icmp .le (13), 3), (20, .new 67, 3), (23, .dup, 1), (24, .ldc 193, 2), (26, .invokespecial 71, 3), (29, .athrow, 1), (30, .return_, 1)]
theorem dt_Wt_requirePart_ok : ∀ e ∈ dt_Wt_requirePart, decode prog_1_method_19_code e.1 = .ok e.2 := by decide +kernel
theorem dc_Wt_requirePart (k : Nat) {pc : Nat} {i : Instr} {n : Nat} (h : dt_Wt_requirePart[k]? = some (pc, i, n)) : decode prog_1_method_19_code pc = .ok (i, n) := rn_dc dt_Wt_requirePart_ok k h
def dt_Wt_isCapital : List (Nat × Instr × Nat) := [(0, .iload_n 0, 1), (1, .bipush (65), 2), (3, .if_icmp .lt (13), 3), (6, .iload_n 0, 1), (7, .bipush (90), 2), (9, .if_icmp .gt (7), 3), (12, .iconst 1, 1), (13, .goto (4), 3), (16, .iconst 0, 1), (17, .ireturn, 1)]
theorem dt_Wt_isCapital_ok : ∀ e ∈ dt_Wt_isCapital, decode prog_1_method_20_code e.1 = .ok e.2 := by decide +kernel
theorem dc_Wt_isCapital (k : Nat) {pc : Nat} {i : Instr} {n : Nat} (h : dt_Wt_isCapital[k]? = some (pc, i, n)) : decode prog_1_method_20_code pc = .ok (i, n) := rn_dc dt_Wt_isCapital_ok k h
def dt_Wt_isSmallLetter : List (Nat × Instr × Nat) := [(0, .iload_n 0, 1), (1, .bipush (97), 2), (3, .if_icmp .lt (13), 3), (6, .iload_n 0, 1), (7, .bipush (122), 2), (9, .if_icmp .gt (7), 3), (12, .iconst 1, 1), (13, .goto (4), 3), (16, .iconst 0, 1), (17, .ireturn, 1)]
theorem dt_Wt_isSmallLetter_ok : ∀ e ∈ dt_Wt_isSmallLetter, decode prog_1_method_21_code e.1 = .ok e.2 := by decide +kernel
theorem dc_Wt_isSmallLetter (k : Nat) {pc : Nat} {i : Instr} {n : Nat} (h : dt_Wt_isSmallLetter[k]? = some (pc, i, n)) : decode prog_1_method_21_code pc = .ok (i, n) := rn_dc dt_Wt_isSmallLetter_ok k h
def dt_Dr_init : List (Nat × Instr × Nat) := [(0, .aload_n 0, 1), (1, .invokespecial 3, 3), (4, .aload_n 0, 1), (5, .sipush (300), 3), (8, .newarray .char, 2), (10, .putfield 9, 3), (13, .aload_n 0, 1), (14, .iconst 0, 1), (15, .putfield 15, 3), (18, .return_, 1)]
theorem dt_Dr_init_ok : ∀ e ∈ dt_Dr_init, decode prog_3_method_1_code e.1 = .ok e.2 := by decide +kernel
theorem dc_Dr_init (k : Nat) {pc : Nat} {i : Instr} {n : Nat} (h : dt_Dr_init[k]? = some (pc, i, n)) : decode prog_3_method_1_code pc = .ok (i, n) := rn_dc dt_Dr_init_ok k h
def dt_Dr_clear : List (Nat × Instr × Nat) := [(0, .aload_n 0, 1), (1, .iconst 0, 1), (2, .putfield 15, 3), (5, .return_, 1)]
theorem dt_Dr_clear_ok : ∀ e ∈ dt_Dr_clear, decode prog_3_method_2_code e.1 = .ok e.2 := by decide +kernel
theorem dc_Dr_clear (k : Nat) {pc : Nat} {i : Instr} {n : Nat} (h : dt_Dr_clear[k]? = some (pc, i, n)) : decode prog_3_method_2_code pc = .ok (i, n) := rn_dc dt_Dr_clear_ok k h
def dt_Dr_append : List (Nat × Instr × Nat) := [(0, .iload_n 1, 1), (1, .iconst 1, 1), (2, .if_icmp .lt (21), 3), (5, .iload_n 1, 1), (6, .bipush (8), 2), (8, .if_icmp .gt (15), 3), (11, .aload_n 0, 1), (12, .getfield 15, 3), (15, .iload_n 1, 1), (16, .iadd, 1), (17, .sipush (300), 3), (20, .if_icmp .le (5), 3), (23, .iconst 0, 1), (24, .ireturn, 1), (25, .iconst 0, 1), (26, .istore 4, 2), (28, .iload 4, 2), (30, .iload_n 1, 1), (31, .if_icmp .ge (23), 3), (34, .lload_n 2, 1), (35, .iload 4, 2), (37, .invokestatic 19, 3), (40, .invokestatic 23, 3), (43, .ifCond .ne (5), 3), (46, .iconst 0, 1), (47, .ireturn, 1), (48, .iinc 4 (1), 3), (51, .goto (-23), 3), (54, .iload_n 1, 1), (55, .iconst 1, 1), (56, .isub, 1), (57, .istore 4, 2), (59, .iload 4, 2), (61, .ifCond .lt (35), 3), (64, .aload_n 0, 1), (65, .getfield 9, 3), (68, .aload_n 0, 1), (69, .getfield 15, 3), (72, .lload_n 2, 1), (73, .iload 4, 2), (75, .invokestatic 19, 3), (78, .i2c, 1), (79, .castore, 1), (80, .aload_n 0, 1), (81, .dup, 1), (82, .getfield 15, 3), (85, .iconst 1, 1), (86, .iadd, 1), (87, .putfield 15, 3), (90, .iinc 4 (-1), 3), (93, .goto (-34), 3), (96, .iconst 1, 1), (97, .ireturn, 1)]
theorem dt_Dr_append_ok : ∀ e ∈ dt_Dr_append, decode prog_3_method_3_code e.1 = .ok e.2 := by decide +kernel
theorem dc_Dr_append (k : Nat) {pc : Nat} {i : Instr} {n : Nat} (h : dt_Dr_append[k]? = some (pc, i, n)) : decode prog_3_method_3_code pc = .ok (i, n) := rn_dc dt_Dr_append_ok k h
def dt_Dr_isText : List (Nat × Instr × Nat) := [(0, .aload_n 0, 1), (1, .getfield 15, 3), (4, .bipush (8), 2), (6, .if_icmp .le (5), 3), (9, .iconst 0, 1), (10, .ireturn, 1), (11, .iconst 0, 1), (12, .istore_n 1, 1), (13, .iload_n 1, 1), (14, .aload_n 0, 1), (15, .getfield 15, 3), (18, .if_icmp .ge (23), 3), (21, .aload_n 0, 1), (22, .getfield 9, 3), (25, .iload_n 1, 1), (26, .caload, 1), (27, .invokestatic 27, 3), (30, .ifCond .ne (5), 3), (33, .iconst 0, 1), (34, .ireturn, 1), (35, .iinc 1 (1), 3), (38, .goto (-25), 3), (41, .iconst 1, 1), (42, .ireturn, 1)]
theorem dt_Dr_isText_ok : ∀ e ∈ dt_Dr_isText, decode prog_3_method_4_code e.1 = .ok e.2 := by decide +kernel
theorem dc_Dr_isText (k : Nat) {pc : Nat} {i : Instr} {n : Nat} (h : dt_Dr_isText[k]? = some (pc, i, n)) : decode prog_3_method_4_code pc = .ok (i, n) := rn_dc dt_Dr_isText_ok k h
def dt_Dr_lineCount : List (Nat × Instr × Nat) := [(0, .iconst 1, 1), (1, .istore_n 1, 1), (2, .iconst 0, 1), (3, .istore_n 2, 1), (4, .iload_n 2, 1), (5, .aload_n 0, 1), (6, .getfield 15, 3), (9, .if_icmp .ge (23), 3), (12, .aload_n 0, 1), (13, .getfield 9, 3), (16, .iload_n 2, 1), (17, .caload, 1), (18, .bipush (10), 2), (20, .if_icmp .ne (6), 3), (23, .iinc 1 (1), 3), (26, .iinc 2 (1), 3), (29, .goto (-25), 3), (32, .iload_n 1, 1), (33, .ireturn, 1)]
theorem dt_Dr_lineCount_ok : ∀ e ∈ dt_Dr_lineCount, decode prog_3_method_5_code e.1 = .ok e.2 := by decide +kernel
theorem dc_Dr_lineCount (k : Nat) {pc : Nat} {i : Instr} {n : Nat} (h : dt_Dr_lineCount[k]? = some (pc, i, n)) : decode prog_3_method_5_code pc = .ok (i, n) := rn_dc dt_Dr_lineCount_ok k h
def dt_Dr_lineEnd : List (Nat × Instr × Nat) := [(0, .iload_n 1, 1), (1, .istore_n 2, 1), (2, .iload_n 2, 1), (3, .aload_n 0, 1), (4, .getfield 15, 3), (7, .if_icmp .ge (22), 3), (10, .aload_n 0, 1), (11, .getfield 9, 3), (14, .iload_n 2, 1), (15, .caload, 1), (16, .bipush (10), 2), (18, .if_icmp .ne (5), 3), (21, .iload_n 2, 1), (22, .ireturn, 1), (23, .iinc 2 (1), 3), (26, .goto (-24), 3), (29, .aload_n 0, 1), (30, .getfield 15, 3), (33, .ireturn, 1)]
theorem dt_Dr_lineEnd_ok : ∀ e ∈ dt_Dr_lineEnd, decode prog_3_method_6_code e.1 = .ok e.2 := by decide +kernel
theorem dc_Dr_lineEnd (k : Nat) {pc : Nat} {i : Instr} {n : Nat} (h : dt_Dr_lineEnd[k]? = some (pc, i, n)) : decode prog_3_method_6_code pc = .ok (i, n) := rn_dc dt_Dr_lineEnd_ok k h
def dt_Dr_codeAt : List (Nat × Instr × Nat) := [(0, .lload_n 0, 1), (1, .bipush (8), 2), (3, .iload_n 2, 1), (4, .imul, 1), (5, .lushr, 1), (6, .ldc2_w 30, 3), (9, .land, 1), (10, .l2i, 1), (11, .ireturn, 1)]
theorem dt_Dr_codeAt_ok : ∀ e ∈ dt_Dr_codeAt, decode prog_3_method_7_code e.1 = .ok e.2 := by decide +kernel
theorem dc_Dr_codeAt (k : Nat) {pc : Nat} {i : Instr} {n : Nat} (h : dt_Dr_codeAt[k]? = some (pc, i, n)) : decode prog_3_method_7_code pc = .ok (i, n) := rn_dc dt_Dr_codeAt_ok k h
def dt_Dr_isAllowed : List (Nat × Instr × Nat) := [(0, .iload_n 0, 1), (1, .bipush (10), 2), (3, .if_icmp .eq (15), 3), (6, .iload_n 0, 1), (7, .bipush (32), 2), (9, .if_icmp .lt (13), 3), (12, .iload_n 0, 1), (13, .bipush (126), 2), (15, .if_icmp .gt (7), 3), (18, .iconst 1, 1), (19, .goto (4), 3), (22, .iconst 0, 1), (23, .ireturn, 1)]
theorem dt_Dr_isAllowed_ok : ∀ e ∈ dt_Dr_isAllowed, decode prog_3_method_8_code e.1 = .ok e.2 := by decide +kernel
theorem dc_Dr_isAllowed (k : Nat) {pc : Nat} {i : Instr} {n : Nat} (h : dt_Dr_isAllowed[k]? = some (pc, i, n)) : decode prog_3_method_8_code pc = .ok (i, n) := rn_dc dt_Dr_isAllowed_ok k h
def dt_Ch_init : List (Nat × Instr × Nat) := [(0, .aload_n 0, 1), (1, .invokespecial 5, 3), (4, .aload_n 0, 1), (5, .sipush (390), 3), (8, .newarray .long, 2), (10, .putfield 11, 3), (13, .aload_n 0, 1), (14, .sipush (390), 3), (17, .newarray .int, 2), (19, .putfield 15, 3), (22, .aload_n 0, 1), (23, .sipush (390), 3), (26, .newarray .int, 2), (28, .putfield 19, 3), (31, .aload_n 0, 1), (32, .sipush (390), 3), (35, .newarray .int, 2), (37, .putfield 22, 3), (40, .aload_n 0, 1), (41, .sipush (390), 3), (44, .newarray .int, 2), (46, .putfield 25, 3), (49, .aload_n 0, 1), (50, .bipush (8), 2), (52, .newarray .char, 2), (54, .putfield 28, 3), (57, .aload_n 0, 1), (58, .iconst (-1), 1), (59, .putfield 32, 3), (62, .aload_n 0, 1), (63, .iconst 5, 1), (64, .bipush (9), 2), (66, .multianewarray 36 2, 4), (70, .putfield 38, 3), (73, .aload_n 0, 1), (74, .iconst 5, 1), (75, .bipush (9), 2), (77, .multianewarray 41 2, 4), (81, .putfield 43, 3), (84, .aload_n 0, 1), (85, .iconst 4, 1), (86, .bipush (9), 2), (88, .multianewarray 41 2, 4), (92, .putfield 46, 3), (95, .return_, 1)]
theorem dt_Ch_init_ok : ∀ e ∈ dt_Ch_init, decode prog_2_method_1_code e.1 = .ok e.2 := by decide +kernel
theorem dc_Ch_init (k : Nat) {pc : Nat} {i : Instr} {n : Nat} (h : dt_Ch_init[k]? = some (pc, i, n)) : decode prog_2_method_1_code pc = .ok (i, n) := rn_dc dt_Ch_init_ok k h
def dt_Ch_cell : List (Nat × Instr × Nat) := [(0, .iload_n 1, 1), (1, .iload_n 2, 1), (2, .if_icmp .ne (7), 3), (5, .iconst 0, 1), (6, .goto (9), 3), (9, .iload_n 1, 1), (10, .bipush (8), 2), (12, .imul, 1), (13, .iload_n 2, 1), (14, .iadd, 1), (15, .istore_n 3, 1), (16, .iload_n 3, 1), (17, .bipush (6), 2), (19, .imul, 1), (20, .iload_n 0, 1), (21, .iadd, 1), (22, .ireturn, 1)]
theorem dt_Ch_cell_ok : ∀ e ∈ dt_Ch_cell, decode prog_2_method_2_code e.1 = .ok e.2 := by decide +kernel
theorem dc_Ch_cell (k : Nat) {pc : Nat} {i : Instr} {n : Nat} (h : dt_Ch_cell[k]? = some (pc, i, n)) : decode prog_2_method_2_code pc = .ok (i, n) := rn_dc dt_Ch_cell_ok k h
def dt_Ch_hasTree : List (Nat × Instr × Nat) := [(0, .aload_n 0, 1), (1, .getfield 15, 3), (4, .iload_n 1, 1), (5, .iload_n 2, 1), (6, .iload_n 3, 1), (7, .invokestatic 49, 3), (10, .iaload, 1), (11, .iconst (-1), 1), (12, .if_icmp .eq (7), 3), (15, .iconst 1, 1), (16, .goto (4), 3), (19, .iconst 0, 1), (20, .ireturn, 1)]
theorem dt_Ch_hasTree_ok : ∀ e ∈ dt_Ch_hasTree, decode prog_2_method_3_code e.1 = .ok e.2 := by decide +kernel
theorem dc_Ch_hasTree (k : Nat) {pc : Nat} {i : Instr} {n : Nat} (h : dt_Ch_hasTree[k]? = some (pc, i, n)) : decode prog_2_method_3_code pc = .ok (i, n) := rn_dc dt_Ch_hasTree_ok k h
def dt_Ch_emptySum : List (Nat × Instr × Nat) := [(0, .aload_n 0, 1), (1, .getfield 11, 3), (4, .iload_n 1, 1), (5, .iconst 0, 1), (6, .iconst 0, 1), (7, .invokestatic 49, 3), (10, .laload, 1), (11, .lreturn, 1)]
theorem dt_Ch_emptySum_ok : ∀ e ∈ dt_Ch_emptySum, decode prog_2_method_4_code e.1 = .ok e.2 := by decide +kernel
theorem dc_Ch_emptySum (k : Nat) {pc : Nat} {i : Instr} {n : Nat} (h : dt_Ch_emptySum[k]? = some (pc, i, n)) : decode prog_2_method_4_code pc = .ok (i, n) := rn_dc dt_Ch_emptySum_ok k h
def dt_Ch_lengthOf : List (Nat × Instr × Nat) := [(0, .aload_n 0, 1), (1, .getfield 25, 3), (4, .iload_n 1, 1), (5, .iaload, 1), (6, .iconst 4, 1), (7, .iload_n 2, 1), (8, .imul, 1), (9, .ishr, 1), (10, .bipush (15), 2), (12, .iand, 1), (13, .ireturn, 1)]
theorem dt_Ch_lengthOf_ok : ∀ e ∈ dt_Ch_lengthOf, decode prog_2_method_5_code e.1 = .ok e.2 := by decide +kernel
theorem dc_Ch_lengthOf (k : Nat) {pc : Nat} {i : Instr} {n : Nat} (h : dt_Ch_lengthOf[k]? = some (pc, i, n)) : decode prog_2_method_5_code pc = .ok (i, n) := rn_dc dt_Ch_lengthOf_ok k h
def dt_Ch_dropText : List (Nat × Instr × Nat) := [(0, .aload_n 0, 1), (1, .iconst (-1), 1), (2, .putfield 32, 3), (5, .return_, 1)]
theorem dt_Ch_dropText_ok : ∀ e ∈ dt_Ch_dropText, decode prog_2_method_6_code e.1 = .ok e.2 := by decide +kernel
theorem dc_Ch_dropText (k : Nat) {pc : Nat} {i : Instr} {n : Nat} (h : dt_Ch_dropText[k]? = some (pc, i, n)) : decode prog_2_method_6_code pc = .ok (i, n) := rn_dc dt_Ch_dropText_ok k h
def dt_Ch_takeText : List (Nat × Instr × Nat) := [(0, .aload_n 0, 1), (1, .aload_n 1, 1), (2, .getfield 53, 3), (5, .putfield 32, 3), (8, .iconst 0, 1), (9, .istore_n 2, 1), (10, .iload_n 2, 1), (11, .aload_n 0, 1), (12, .getfield 32, 3), (15, .if_icmp .ge (21), 3), (18, .aload_n 0, 1), (19, .getfield 28, 3), (22, .iload_n 2, 1), (23, .aload_n 1, 1), (24, .getfield 58, 3), (27, .iload_n 2, 1), (28, .caload, 1), (29, .castore, 1), (30, .iinc 2 (1), 3), (33, .goto (-23), 3), (36, .return_, 1)]
theorem dt_Ch_takeText_ok : ∀ e ∈ dt_Ch_takeText, decode prog_2_method_7_code e.1 = .ok e.2 := by decide +kernel
theorem dc_Ch_takeText (k : Nat) {pc : Nat} {i : Instr} {n : Nat} (h : dt_Ch_takeText[k]? = some (pc, i, n)) : decode prog_2_method_7_code pc = .ok (i, n) := rn_dc dt_Ch_takeText_ok k h
def dt_Ch_fillText : List (Nat × Instr × Nat) := [(0, .iconst 1, 1), (1, .istore_n 2, 1), (2, .iload_n 2, 1), (3, .aload_n 0, 1), (4, .getfield 32, 3), (7, .if_icmp .gt (36), 3), (10, .iconst 0, 1), (11, .istore_n 3, 1), (12, .iload_n 3, 1), (13, .iload_n 2, 1), (14, .iadd, 1), (15, .aload_n 0, 1), (16, .getfield 32, 3), (19, .if_icmp .gt (18), 3), (22, .aload_n 0, 1), (23, .aload_n 1, 1), (24, .iload_n 3, 1), (25, .iload_n 3, 1), (26, .iload_n 2, 1), (27, .iadd, 1), (28, .invokevirtual 61, 3), (31, .iinc 3 (1), 3), (34, .goto (-22), 3), (37, .iinc 2 (1), 3), (40, .goto (-38), 3), (43, .return_, 1)]
theorem dt_Ch_fillText_ok : ∀ e ∈ dt_Ch_fillText, decode prog_2_method_8_code e.1 = .ok e.2 := by decide +kernel
theorem dc_Ch_fillText (k : Nat) {pc : Nat} {i : Instr} {n : Nat} (h : dt_Ch_fillText[k]? = some (pc, i, n)) : decode prog_2_method_8_code pc = .ok (i, n) := rn_dc dt_Ch_fillText_ok k h
def dt_Ch_fillPart : List (Nat × Instr × Nat) := [(0, .iconst 0, 1), (1, .istore 4, 2), (3, .iload 4, 2), (5, .bipush (6), 2), (7, .if_icmp .ge (35), 3), (10, .aload_n 0, 1), (11, .getfield 11, 3), (14, .iload 4, 2), (16, .iload_n 2, 1), (17, .iload_n 3, 1), (18, .invokestatic 49, 3), (21, .lconst 0, 1), (22, .lastore, 1), (23, .aload_n 0, 1), (24, .getfield 15, 3), (27, .iload 4, 2), (29, .iload_n 2, 1), (30, .iload_n 3, 1), (31, .invokestatic 49, 3), (34, .iconst (-1), 1), (35, .iastore, 1), (36, .iinc 4 (1), 3), (39, .goto (-36), 3), (42, .iconst 0, 1), (43, .istore 4, 2), (45, .iload 4, 2), (47, .aload_n 1, 1), (48, .getfield 65, 3), (51, .if_icmp .ge (53), 3), (54, .iconst 0, 1), (55, .istore 5, 2), (57, .iload 5, 2), (59, .aload_n 1, 1), (60, .getfield 70, 3), (63, .if_icmp .ge (35), 3), (66, .aload_n 1, 1), (67, .getfield 73, 3), (70, .iload 5, 2), (72, .iaload, 1), (73, .aload_n 1, 1), (74, .getfield 76, 3), (77, .iload 4, 2), (79, .iaload, 1), (80, .if_icmp .ne (12), 3), (83, .aload_n 0, 1), (84, .aload_n 1, 1), (85, .iload 5, 2), (87, .iload_n 2, 1), (88, .iload_n 3, 1), (89, .invokevirtual 79, 3), (92, .iinc 5 (1), 3), (95, .goto (-38), 3), (98, .iinc 4 (1), 3), (101, .goto (-56), 3), (104, .return_, 1)]
theorem dt_Ch_fillPart_ok : ∀ e ∈ dt_Ch_fillPart, decode prog_2_method_9_code e.1 = .ok e.2 := by decide +kernel
theorem dc_Ch_fillPart (k : Nat) {pc : Nat} {i : Instr} {n : Nat} (h : dt_Ch_fillPart[k]? = some (pc, i, n)) : decode prog_2_method_9_code pc = .ok (i, n) := rn_dc dt_Ch_fillPart_ok k h
def dt_Ch_addRule : List (Nat × Instr × Nat) := [(0, .aload_n 0, 1), (1, .aload_n 1, 1), (2, .iload_n 2, 1), (3, .iload_n 3, 1), (4, .iload 4, 2), (6, .invokevirtual 83, 3), (9, .aload_n 0, 1), (10, .getfield 43, 3), (13, .iconst 0, 1), (14, .aaload, 1), (15, .iload_n 3, 1), (16, .iaload, 1), (17, .iconst (-1), 1), (18, .if_icmp .ne (4), 3), (21, .return_, 1), (22, .aload_n 1, 1), (23, .getfield 73, 3), (26, .iload_n 2, 1), (27, .iaload, 1), (28, .iload_n 3, 1), (29, .iload 4, 2), (31, .invokestatic 49, 3), (34, .istore 5, 2), (36, .aload_n 0, 1), (37, .getfield 11, 3), (40, .iload 5, 2), (42, .dup2, 1), (43, .laload, 1), (44, .aload_n 1, 1), (45, .getfield 86, 3), (48, .iload_n 2, 1), (49, .laload, 1), (50, .aload_n 0, 1), (51, .getfield 38, 3), (54, .iconst 0, 1), (55, .aaload, 1), (56, .iload_n 3, 1), (57, .laload, 1), (58, .lmul, 1), (59, .ladd, 1), (60, .lastore, 1), (61, .aload_n 1, 1), (62, .getfield 89, 3), (65, .iload_n 2, 1), (66, .iaload, 1), (67, .aload_n 0, 1), (68, .getfield 43, 3), (71, .iconst 0, 1), (72, .aaload, 1), (73, .iload_n 3, 1), (74, .iaload, 1), (75, .iadd, 1), (76, .istore 6, 2), (78, .aload_n 0, 1), (79, .getfield 15, 3), (82, .iload 5, 2), (84, .iaload, 1), (85, .iconst (-1), 1), (86, .if_icmp .eq (15), 3), (89, .iload 6, 2), (91, .aload_n 0, 1), (92, .getfield 15, 3), (95, .iload 5, 2), (97, .iaload, 1), (98, .if_icmp .ge (29), 3), (101, .aload_n 0, 1), (102, .getfield 15, 3), (105, .iload 5, 2), (107, .iload 6, 2), (109, .iastore, 1), (110, .aload_n 0, 1), (111, .getfield 19, 3), (114, .iload 5, 2), (116, .iload_n 2, 1), (117, .iastore, 1), (118, .aload_n 0, 1), (119, .aload_n 1, 1), (120, .iload_n 2, 1), (121, .iload 5, 2), (123, .iload_n 3, 1), (124, .invokevirtual 90, 3), (127, .return_, 1)]
theorem dt_Ch_addRule_ok : ∀ e ∈ dt_Ch_addRule, decode prog_2_method_10_code e.1 = .ok e.2 := by decide +kernel
theorem dc_Ch_addRule (k : Nat) {pc : Nat} {i : Instr} {n : Nat} (h : dt_Ch_addRule[k]? = some (pc, i, n)) : decode prog_2_method_10_code pc = .ok (i, n) := rn_dc dt_Ch_addRule_ok k h
def dt_Ch_matchBody : List (Nat × Instr × Nat) := [(0, .aload_n 1, 1), (1, .getfield 93, 3), (4, .iload_n 2, 1), (5, .iaload, 1), (6, .istore 5, 2), (8, .iload_n 3, 1), (9, .istore 6, 2), (11, .iload 6, 2), (13, .iload 4, 2), (15, .if_icmp .gt (53), 3), (18, .aload_n 0, 1), (19, .getfield 38, 3), (22, .iload 5, 2), (24, .aaload, 1), (25, .iload 6, 2), (27, .iload 6, 2), (29, .iload 4, 2), (31, .if_icmp .ne (7), 3), (34, .lconst 1, 1), (35, .goto (4), 3), (38, .lconst 0, 1), (39, .lastore, 1), (40, .aload_n 0, 1), (41, .getfield 43, 3), (44, .iload 5, 2), (46, .aaload, 1), (47, .iload 6, 2), (49, .iload 6, 2), (51, .iload 4, 2), (53, .if_icmp .ne (7), 3), (56, .iconst 0, 1), (57, .goto (4), 3), (60, .iconst (-1), 1), (61, .iastore, 1), (62, .iinc 6 (1), 3), (65, .goto (-54), 3), (68, .iload 5, 2), (70, .iconst 1, 1), (71, .isub, 1), (72, .istore 6, 2), (74, .iload 6, 2), (76, .ifCond .lt (82), 3), (79, .aload_n 1, 1), (80, .iload_n 2, 1), (81, .iload 6, 2), (83, .invokevirtual 96, 3), (86, .istore 7, 2), (88, .iload 6, 2), (90, .ifCond .ne (7), 3), (93, .iload_n 3, 1), (94, .goto (5), 3), (97, .iload 4, 2), (99, .istore 8, 2), (101, .iload_n 3, 1), (102, .istore 9, 2), (104, .iload 9, 2), (106, .iload 8, 2), (108, .if_icmp .gt (44), 3), (111, .iload 7, 2), (113, .invokestatic 100, 3), (116, .ifCond .eq (18), 3), (119, .aload_n 0, 1), (120, .iload 7, 2), (122, .iload 6, 2), (124, .iload 9, 2), (126, .iload 4, 2), (128, .invokevirtual 104, 3), (131, .goto (15), 3), (134, .aload_n 0, 1), (135, .iload 7, 2), (137, .iload 6, 2), (139, .iload 9, 2), (141, .iload 4, 2), (143, .invokevirtual 108, 3), (146, .iinc 9 (1), 3), (149, .goto (-45), 3), (152, .iinc 6 (-1), 3), (155, .goto (-81), 3), (158, .return_, 1)]
theorem dt_Ch_matchBody_ok : ∀ e ∈ dt_Ch_matchBody, decode prog_2_method_11_code e.1 = .ok e.2 := by decide +kernel
theorem dc_Ch_matchBody (k : Nat) {pc : Nat} {i : Instr} {n : Nat} (h : dt_Ch_matchBody[k]? = some (pc, i, n)) : decode prog_2_method_11_code pc = .ok (i, n) := rn_dc dt_Ch_matchBody_ok k h
def dt_Ch_matchTerminal : List (Nat × Instr × Nat) := [(0, .iload_n 3, 1), (1, .iload 4, 2), (3, .if_icmp .ge (17), 3), (6, .aload_n 0, 1), (7, .getfield 28, 3), (10, .iload_n 3, 1), (11, .caload, 1), (12, .iload_n 1, 1), (13, .if_icmp .ne (7), 3), (16, .iconst 1, 1), (17, .goto (4), 3), (20, .iconst 0, 1), (21, .istore 5, 2), (23, .aload_n 0, 1), (24, .getfield 38, 3), (27, .iload_n 2, 1), (28, .aaload, 1), (29, .iload_n 3, 1), (30, .iload 5, 2), (32, .ifCond .eq (18), 3), (35, .aload_n 0, 1), (36, .getfield 38, 3), (39, .iload_n 2, 1), (40, .iconst 1, 1), (41, .iadd, 1), (42, .aaload, 1), (43, .iload_n 3, 1), (44, .iconst 1, 1), (45, .iadd, 1), (46, .laload, 1), (47, .goto (4), 3), (50, .lconst 0, 1), (51, .lastore, 1), (52, .aload_n 0, 1), (53, .getfield 43, 3), (56, .iload_n 2, 1), (57, .aaload, 1), (58, .iload_n 3, 1), (59, .iload 5, 2), (61, .ifCond .eq (18), 3), (64, .aload_n 0, 1), (65, .getfield 43, 3), (68, .iload_n 2, 1), (69, .iconst 1, 1), (70, .iadd, 1), (71, .aaload, 1), (72, .iload_n 3, 1), (73, .iconst 1, 1), (74, .iadd, 1), (75, .iaload, 1), (76, .goto (4), 3), (79, .iconst (-1), 1), (80, .iastore, 1), (81, .aload_n 0, 1), (82, .getfield 46, 3), (85, .iload_n 2, 1), (86, .aaload, 1), (87, .iload_n 3, 1), (88, .iconst 1, 1), (89, .iastore, 1), (90, .return_, 1)]
theorem dt_Ch_matchTerminal_ok : ∀ e ∈ dt_Ch_matchTerminal, decode prog_2_method_12_code e.1 = .ok e.2 := by decide +kernel
theorem dc_Ch_matchTerminal (k : Nat) {pc : Nat} {i : Instr} {n : Nat} (h : dt_Ch_matchTerminal[k]? = some (pc, i, n)) : decode prog_2_method_12_code pc = .ok (i, n) := rn_dc dt_Ch_matchTerminal_ok k h
def dt_Ch_matchNonterminal : List (Nat × Instr × Nat) := [(0, .lconst 0, 1), (1, .lstore 5, 2), (3, .iconst (-1), 1), (4, .istore 7, 2), (6, .iload_n 3, 1), (7, .istore 8, 2), (9, .iload 8, 2), (11, .iload 4, 2), (13, .if_icmp .gt (118), 3), (16, .iload_n 1, 1), (17, .iload_n 3, 1), (18, .iload 8, 2), (20, .invokestatic 49, 3), (23, .istore 9, 2), (25, .aload_n 0, 1), (26, .getfield 15, 3), (29, .iload 9, 2), (31, .iaload, 1), (32, .iconst (-1), 1), (33, .if_icmp .eq (92), 3), (36, .aload_n 0, 1), (37, .getfield 43, 3), (40, .iload_n 2, 1), (41, .iconst 1, 1), (42, .iadd, 1), (43, .aaload, 1), (44, .iload 8, 2), (46, .iaload, 1), (47, .iconst (-1), 1), (48, .if_icmp .eq (77), 3), (51, .lload 5, 2), (53, .aload_n 0, 1), (54, .getfield 11, 3), (57, .iload 9, 2), (59, .laload, 1), (60, .aload_n 0, 1), (61, .getfield 38, 3), (64, .iload_n 2, 1), (65, .iconst 1, 1), (66, .iadd, 1), (67, .aaload, 1), (68, .iload 8, 2), (70, .laload, 1), (71, .lmul, 1), (72, .ladd, 1), (73, .lstore 5, 2), (75, .aload_n 0, 1), (76, .getfield 15, 3), (79, .iload 9, 2), (81, .iaload, 1), (82, .aload_n 0, 1), (83, .getfield 43, 3), (86, .iload_n 2, 1), (87, .iconst 1, 1), (88, .iadd, 1), (89, .aaload, 1), (90, .iload 8, 2), (92, .iaload, 1), (93, .iadd, 1), (94, .istore 10, 2), (96, .iload 7, 2), (98, .iconst (-1), 1), (99, .if_icmp .eq (10), 3), (102, .iload 10, 2), (104, .iload 7, 2), (106, .if_icmp .ge (19), 3), (109, .iload 10, 2), (111, .istore 7, 2), (113, .aload_n 0, 1), (114, .getfield 46, 3), (117, .iload_n 2, 1), (118, .aaload, 1), (119, .iload_n 3, 1), (120, .iload 8, 2), (122, .iload_n 3, 1), (123, .isub, 1), (124, .iastore, 1), (125, .iinc 8 (1), 3), (128, .goto (-119), 3), (131, .aload_n 0, 1), (132, .getfield 38, 3), (135, .iload_n 2, 1), (136, .aaload, 1), (137, .iload_n 3, 1), (138, .lload 5, 2), (140, .lastore, 1), (141, .aload_n 0, 1), (142, .getfield 43, 3), (145, .iload_n 2, 1), (146, .aaload, 1), (147, .iload_n 3, 1), (148, .iload 7, 2), (150, .iastore, 1), (151, .return_, 1)]
theorem dt_Ch_matchNonterminal_ok : ∀ e ∈ dt_Ch_matchNonterminal, decode prog_2_method_13_code e.1 = .ok e.2 := by decide +kernel
theorem dc_Ch_matchNonterminal (k : Nat) {pc : Nat} {i : Instr} {n : Nat} (h : dt_Ch_matchNonterminal[k]? = some (pc, i, n)) : decode prog_2_method_13_code pc = .ok (i, n) := rn_dc dt_Ch_matchNonterminal_ok k h
def dt_Ch_keepBody : List (Nat × Instr × Nat) := [(0, .iload 4, 2), (2, .istore 5, 2), (4, .iconst 1, 1), (5, .istore 6, 2), (7, .iconst 0, 1), (8, .istore 7, 2), (10, .iconst 0, 1), (11, .istore 8, 2), (13, .iload 8, 2), (15, .aload_n 1, 1), (16, .getfield 93, 3), (19, .iload_n 2, 1), (20, .iaload, 1), (21, .if_icmp .ge (79), 3), (24, .aload_n 0, 1), (25, .getfield 46, 3), (28, .iload 8, 2), (30, .aaload, 1), (31, .iload 5, 2), (33, .iaload, 1), (34, .istore 9, 2), (36, .aload_n 1, 1), (37, .iload_n 2, 1), (38, .iload 8, 2), (40, .invokevirtual 96, 3), (43, .istore 10, 2), (45, .iload 10, 2), (47, .invokestatic 100, 3), (50, .ifCond .eq (25), 3), (53, .iload 6, 2), (55, .aload_n 0, 1), (56, .getfield 22, 3), (59, .iload 10, 2), (61, .iload 5, 2), (63, .iload 5, 2), (65, .iload 9, 2), (67, .iadd, 1), (68, .invokestatic 49, 3), (71, .iaload, 1), (72, .iadd, 1), (73, .istore 6, 2), (75, .iload 7, 2), (77, .iload 9, 2), (79, .iconst 4, 1), (80, .iload 8, 2), (82, .imul, 1), (83, .ishl, 1), (84, .ior, 1), (85, .istore 7, 2), (87, .iload 5, 2), (89, .iload 9, 2), (91, .iadd, 1), (92, .istore 5, 2), (94, .iinc 8 (1), 3), (97, .goto (-84), 3), (100, .aload_n 0, 1), (101, .getfield 22, 3), (104, .iload_n 3, 1), (105, .iload 6, 2), (107, .iastore, 1), (108, .aload_n 0, 1), (109, .getfield 25, 3), (112, .iload_n 3, 1), (113, .iload 7, 2), (115, .iastore, 1), (116, .return_, 1)]
theorem dt_Ch_keepBody_ok : ∀ e ∈ dt_Ch_keepBody, decode prog_2_method_14_code e.1 = .ok e.2 := by decide +kernel
theorem dc_Ch_keepBody (k : Nat) {pc : Nat} {i : Instr} {n : Nat} (h : dt_Ch_keepBody[k]? = some (pc, i, n)) : decode prog_2_method_14_code pc = .ok (i, n) := rn_dc dt_Ch_keepBody_ok k h
def dt_Ut_init : List (Nat × Instr × Nat) := [(0, .aload_n 0, 1), (1, .invokespecial 3, 3), (4, .aload_n 0, 1), (5, .bipush (36), 2), (7, .newarray .long, 2), (9, .putfield 9, 3), (12, .return_, 1)]
theorem dt_Ut_init_ok : ∀ e ∈ dt_Ut_init, decode prog_7_method_1_code e.1 = .ok e.2 := by decide +kernel
theorem dc_Ut_init (k : Nat) {pc : Nat} {i : Instr} {n : Nat} (h : dt_Ut_init[k]? = some (pc, i, n)) : decode prog_7_method_1_code pc = .ok (i, n) := rn_dc dt_Ut_init_ok k h
def dt_Ut_sum : List (Nat × Instr × Nat) := [(0, .aload_n 0, 1), (1, .getfield 9, 3), (4, .iload_n 1, 1), (5, .bipush (6), 2), (7, .imul, 1), (8, .iload_n 2, 1), (9, .iadd, 1), (10, .laload, 1), (11, .lreturn, 1)]
theorem dt_Ut_sum_ok : ∀ e ∈ dt_Ut_sum, decode prog_7_method_2_code e.1 = .ok e.2 := by decide +kernel
theorem dc_Ut_sum (k : Nat) {pc : Nat} {i : Instr} {n : Nat} (h : dt_Ut_sum[k]? = some (pc, i, n)) : decode prog_7_method_2_code pc = .ok (i, n) := rn_dc dt_Ut_sum_ok k h
def dt_Ut_fill : List (Nat × Instr × Nat) := [(0, .iconst 0, 1), (1, .istore_n 3, 1), (2, .iload_n 3, 1), (3, .aload_n 1, 1), (4, .getfield 15, 3), (7, .if_icmp .ge (96), 3), (10, .aload_n 1, 1), (11, .getfield 21, 3), (14, .iload_n 3, 1), (15, .iaload, 1), (16, .istore 4, 2), (18, .iconst 0, 1), (19, .istore 5, 2), (21, .iload 5, 2), (23, .bipush (6), 2), (25, .if_icmp .ge (34), 3), (28, .aload_n 0, 1), (29, .getfield 9, 3), (32, .iload 4, 2), (34, .bipush (6), 2), (36, .imul, 1), (37, .iload 5, 2), (39, .iadd, 1), (40, .iload 4, 2), (42, .iload 5, 2), (44, .if_icmp .ne (7), 3), (47, .lconst 1, 1), (48, .goto (4), 3), (51, .lconst 0, 1), (52, .lastore, 1), (53, .iinc 5 (1), 3), (56, .goto (-35), 3), (59, .iconst 0, 1), (60, .istore 5, 2), (62, .iload 5, 2), (64, .aload_n 1, 1), (65, .getfield 25, 3), (68, .if_icmp .ge (29), 3), (71, .aload_n 1, 1), (72, .getfield 28, 3), (75, .iload 5, 2), (77, .iaload, 1), (78, .iload 4, 2), (80, .if_icmp .ne (11), 3), (83, .aload_n 0, 1), (84, .aload_n 1, 1), (85, .aload_n 2, 1), (86, .iload 5, 2), (88, .invokevirtual 31, 3), (91, .iinc 5 (1), 3), (94, .goto (-32), 3), (97, .iinc 3 (1), 3), (100, .goto (-98), 3), (103, .return_, 1)]
theorem dt_Ut_fill_ok : ∀ e ∈ dt_Ut_fill, decode prog_7_method_3_code e.1 = .ok e.2 := by decide +kernel
theorem dc_Ut_fill (k : Nat) {pc : Nat} {i : Instr} {n : Nat} (h : dt_Ut_fill[k]? = some (pc, i, n)) : decode prog_7_method_3_code pc = .ok (i, n) := rn_dc dt_Ut_fill_ok k h
def dt_Ut_addRule : List (Nat × Instr × Nat) := [(0, .aload_n 1, 1), (1, .getfield 28, 3), (4, .iload_n 3, 1), (5, .iaload, 1), (6, .istore 4, 2), (8, .iconst 0, 1), (9, .istore 5, 2), (11, .iload 5, 2), (13, .aload_n 1, 1), (14, .getfield 35, 3), (17, .iload_n 3, 1), (18, .iaload, 1), (19, .if_icmp .ge (86), 3), (22, .aload_n 1, 1), (23, .iload_n 3, 1), (24, .iload 5, 2), (26, .invokevirtual 38, 3), (29, .istore 6, 2), (31, .iload 6, 2), (33, .invokestatic 42, 3), (36, .ifCond .eq (63), 3), (39, .aload_n 1, 1), (40, .getfield 46, 3), (43, .iload_n 3, 1), (44, .laload, 1), (45, .aload_n 1, 1), (46, .aload_n 2, 1), (47, .iload_n 3, 1), (48, .iload 5, 2), (50, .invokestatic 49, 3), (53, .lmul, 1), (54, .lstore 7, 2), (56, .iconst 0, 1), (57, .istore 9, 2), (59, .iload 9, 2), (61, .bipush (6), 2), (63, .if_icmp .ge (36), 3), (66, .aload_n 0, 1), (67, .getfield 9, 3), (70, .iload 4, 2), (72, .bipush (6), 2), (74, .imul, 1), (75, .iload 9, 2), (77, .iadd, 1), (78, .dup2, 1), (79, .laload, 1), (80, .lload 7, 2), (82, .aload_n 0, 1), (83, .iload 6, 2), (85, .iload 9, 2), (87, .invokevirtual 53, 3), (90, .lmul, 1), (91, .ladd, 1), (92, .lastore, 1), (93, .iinc 9 (1), 3), (96, .goto (-37), 3), (99, .iinc 5 (1), 3), (102, .goto (-91), 3), (105, .return_, 1)]
theorem dt_Ut_addRule_ok : ∀ e ∈ dt_Ut_addRule, decode prog_7_method_4_code e.1 = .ok e.2 := by decide +kernel
theorem dc_Ut_addRule (k : Nat) {pc : Nat} {i : Instr} {n : Nat} (h : dt_Ut_addRule[k]? = some (pc, i, n)) : decode prog_7_method_4_code pc = .ok (i, n) := rn_dc dt_Ut_addRule_ok k h
def dt_Ut_emptyProduct : List (Nat × Instr × Nat) := [(0, .lconst 1, 1), (1, .lstore 4, 2), (3, .iconst 0, 1), (4, .istore 6, 2), (6, .iload 6, 2), (8, .aload_n 0, 1), (9, .getfield 35, 3), (12, .iload_n 2, 1), (13, .iaload, 1), (14, .if_icmp .ge (47), 3), (17, .aload_n 0, 1), (18, .iload_n 2, 1), (19, .iload 6, 2), (21, .invokevirtual 38, 3), (24, .istore 7, 2), (26, .iload 6, 2), (28, .iload_n 3, 1), (29, .if_icmp .eq (26), 3), (32, .lload 4, 2), (34, .iload 7, 2), (36, .invokestatic 42, 3), (39, .ifCond .eq (12), 3), (42, .aload_n 1, 1), (43, .iload 7, 2), (45, .invokevirtual 57, 3), (48, .goto (4), 3), (51, .lconst 0, 1), (52, .lmul, 1), (53, .lstore 4, 2), (55, .iinc 6 (1), 3), (58, .goto (-52), 3), (61, .lload 4, 2), (63, .lreturn, 1)]
theorem dt_Ut_emptyProduct_ok : ∀ e ∈ dt_Ut_emptyProduct, decode prog_7_method_5_code e.1 = .ok e.2 := by decide +kernel
theorem dc_Ut_emptyProduct (k : Nat) {pc : Nat} {i : Instr} {n : Nat} (h : dt_Ut_emptyProduct[k]? = some (pc, i, n)) : decode prog_7_method_5_code pc = .ok (i, n) := rn_dc dt_Ut_emptyProduct_ok k h
def dt_Tl_init : List (Nat × Instr × Nat) := [(0, .aload_n 0, 1), (1, .invokespecial 3, 3), (4, .aload_n 0, 1), (5, .bipush (100), 2), (7, .newarray .int, 2), (9, .putfield 9, 3), (12, .aload_n 0, 1), (13, .bipush (100), 2), (15, .newarray .int, 2), (17, .putfield 15, 3), (20, .aload_n 0, 1), (21, .bipush (100), 2), (23, .newarray .int, 2), (25, .putfield 18, 3), (28, .aload_n 0, 1), (29, .bipush (100), 2), (31, .newarray .int, 2), (33, .putfield 21, 3), (36, .aload_n 0, 1), (37, .iconst 0, 1), (38, .putfield 24, 3), (41, .return_, 1)]
theorem dt_Tl_init_ok : ∀ e ∈ dt_Tl_init, decode prog_6_method_1_code e.1 = .ok e.2 := by decide +kernel
theorem dc_Tl_init (k : Nat) {pc : Nat} {i : Instr} {n : Nat} (h : dt_Tl_init[k]? = some (pc, i, n)) : decode prog_6_method_1_code pc = .ok (i, n) := rn_dc dt_Tl_init_ok k h
def dt_Tl_clear : List (Nat × Instr × Nat) := [(0, .aload_n 0, 1), (1, .iconst 0, 1), (2, .putfield 24, 3), (5, .return_, 1)]
theorem dt_Tl_clear_ok : ∀ e ∈ dt_Tl_clear, decode prog_6_method_2_code e.1 = .ok e.2 := by decide +kernel
theorem dc_Tl_clear (k : Nat) {pc : Nat} {i : Instr} {n : Nat} (h : dt_Tl_clear[k]? = some (pc, i, n)) : decode prog_6_method_2_code pc = .ok (i, n) := rn_dc dt_Tl_clear_ok k h
def dt_Tl_shownCount : List (Nat × Instr × Nat) := [(0, .aload_n 0, 1), (1, .getfield 24, 3), (4, .bipush (100), 2), (6, .invokestatic 28, 3), (9, .ireturn, 1)]
theorem dt_Tl_shownCount_ok : ∀ e ∈ dt_Tl_shownCount, decode prog_6_method_3_code e.1 = .ok e.2 := by decide +kernel
theorem dc_Tl_shownCount (k : Nat) {pc : Nat} {i : Instr} {n : Nat} (h : dt_Tl_shownCount[k]? = some (pc, i, n)) : decode prog_6_method_3_code pc = .ok (i, n) := rn_dc dt_Tl_shownCount_ok k h
def dt_Tl_list : List (Nat × Instr × Nat) := [(0, .aload_n 0, 1), (1, .aload_n 2, 1), (2, .getfield 34, 3), (5, .iload_n 3, 1), (6, .iload 4, 2), (8, .iload 5, 2), (10, .invokestatic 39, 3), (13, .iaload, 1), (14, .putfield 24, 3), (17, .aload_n 0, 1), (18, .iconst 0, 1), (19, .iload_n 3, 1), (20, .iload 4, 2), (22, .iload 5, 2), (24, .invokevirtual 43, 3), (27, .aload_n 0, 1), (28, .invokevirtual 47, 3), (31, .istore 6, 2), (33, .iconst 0, 1), (34, .istore 7, 2), (36, .iload 7, 2), (38, .iload 6, 2), (40, .if_icmp .ge (17), 3), (43, .aload_n 0, 1), (44, .aload_n 1, 1), (45, .aload_n 2, 1), (46, .iload 7, 2), (48, .invokevirtual 51, 3), (51, .iinc 7 (1), 3), (54, .goto (-18), 3), (57, .return_, 1)]
theorem dt_Tl_list_ok : ∀ e ∈ dt_Tl_list, decode prog_6_method_4_code e.1 = .ok e.2 := by decide +kernel
theorem dc_Tl_list (k : Nat) {pc : Nat} {i : Instr} {n : Nat} (h : dt_Tl_list[k]? = some (pc, i, n)) : decode prog_6_method_4_code pc = .ok (i, n) := rn_dc dt_Tl_list_ok k h
def dt_Tl_keepPlace : List (Nat × Instr × Nat) := [(0, .aload_n 0, 1), (1, .getfield 21, 3), (4, .iload_n 1, 1), (5, .iload_n 2, 1), (6, .iastore, 1), (7, .aload_n 0, 1), (8, .getfield 15, 3), (11, .iload_n 1, 1), (12, .iload_n 3, 1), (13, .iastore, 1), (14, .aload_n 0, 1), (15, .getfield 18, 3), (18, .iload_n 1, 1), (19, .iload 4, 2), (21, .iastore, 1), (22, .return_, 1)]
theorem dt_Tl_keepPlace_ok : ∀ e ∈ dt_Tl_keepPlace, decode prog_6_method_5_code e.1 = .ok e.2 := by decide +kernel
theorem dc_Tl_keepPlace (k : Nat) {pc : Nat} {i : Instr} {n : Nat} (h : dt_Tl_keepPlace[k]? = some (pc, i, n)) : decode prog_6_method_5_code pc = .ok (i, n) := rn_dc dt_Tl_keepPlace_ok k h
def dt_Tl_expand : List (Nat × Instr × Nat) := [(0, .aload_n 0, 1), (1, .getfield 21, 3), (4, .iload_n 3, 1), (5, .iaload, 1), (6, .aload_n 0, 1), (7, .getfield 15, 3), (10, .iload_n 3, 1), (11, .iaload, 1), (12, .aload_n 0, 1), (13, .getfield 18, 3), (16, .iload_n 3, 1), (17, .iaload, 1), (18, .invokestatic 39, 3), (21, .istore 4, 2), (23, .aload_n 2, 1), (24, .getfield 55, 3), (27, .iload 4, 2), (29, .iaload, 1), (30, .istore 5, 2), (32, .aload_n 0, 1), (33, .getfield 9, 3), (36, .iload_n 3, 1), (37, .iload 5, 2), (39, .iastore, 1), (40, .iload_n 3, 1), (41, .iconst 1, 1), (42, .iadd, 1), (43, .istore 6, 2), (45, .aload_n 0, 1), (46, .getfield 15, 3), (49, .iload_n 3, 1), (50, .iaload, 1), (51, .istore 7, 2), (53, .iconst 0, 1), (54, .istore 8, 2), (56, .iload 8, 2), (58, .aload_n 1, 1), (59, .getfield 56, 3), (62, .iload 5, 2), (64, .iaload, 1), (65, .if_icmp .ge (82), 3), (68, .aload_n 1, 1), (69, .iload 5, 2), (71, .iload 8, 2), (73, .invokevirtual 61, 3), (76, .istore 9, 2), (78, .iload 7, 2), (80, .aload_n 2, 1), (81, .iload 4, 2), (83, .iload 8, 2), (85, .invokevirtual 64, 3), (88, .iadd, 1), (89, .istore 10, 2), (91, .iload 9, 2), (93, .invokestatic 67, 3), (96, .ifCond .eq (41), 3), (99, .iload 6, 2), (101, .bipush (100), 2), (103, .if_icmp .ge (15), 3), (106, .aload_n 0, 1), (107, .iload 6, 2), (109, .iload 9, 2), (111, .iload 7, 2), (113, .iload 10, 2), (115, .invokevirtual 43, 3), (118, .iload 6, 2), (120, .aload_n 2, 1), (121, .getfield 34, 3), (124, .iload 9, 2), (126, .iload 7, 2), (128, .iload 10, 2), (130, .invokestatic 39, 3), (133, .iaload, 1), (134, .iadd, 1), (135, .istore 6, 2), (137, .iload 10, 2), (139, .istore 7, 2), (141, .iinc 8 (1), 3), (144, .goto (-88), 3), (147, .return_, 1)]
theorem dt_Tl_expand_ok : ∀ e ∈ dt_Tl_expand, decode prog_6_method_6_code e.1 = .ok e.2 := by decide +kernel
theorem dc_Tl_expand (k : Nat) {pc : Nat} {i : Instr} {n : Nat} (h : dt_Tl_expand[k]? = some (pc, i, n)) : decode prog_6_method_6_code pc = .ok (i, n) := rn_dc dt_Tl_expand_ok k h
def dt_Gr_init : List (Nat × Instr × Nat) := [(0, .aload_n 0, 1), (1, .invokespecial 3, 3), (4, .aload_n 0, 1), (5, .bipush (12), 2), (7, .newarray .int, 2), (9, .putfield 9, 3), (12, .aload_n 0, 1), (13, .bipush (48), 2), (15, .newarray .int, 2), (17, .putfield 15, 3), (20, .aload_n 0, 1), (21, .bipush (12), 2), (23, .newarray .int, 2), (25, .putfield 18, 3), (28, .aload_n 0, 1), (29, .bipush (12), 2), (31, .newarray .long, 2), (33, .putfield 21, 3), (36, .aload_n 0, 1), (37, .bipush (12), 2), (39, .newarray .int, 2), (41, .putfield 25, 3), (44, .aload_n 0, 1), (45, .bipush (6), 2), (47, .newarray .int, 2), (49, .putfield 28, 3), (52, .aload_n 0, 1), (53, .bipush (6), 2), (55, .newarray .int, 2), (57, .putfield 31, 3), (60, .aload_n 0, 1), (61, .iconst 0, 1), (62, .putfield 34, 3), (65, .aload_n 0, 1), (66, .iconst 0, 1), (67, .putfield 38, 3), (70, .aload_n 0, 1), (71, .bipush (6), 2), (73, .newarray .int, 2), (75, .putfield 41, 3), (78, .return_, 1)]
theorem dt_Gr_init_ok : ∀ e ∈ dt_Gr_init, decode prog_4_method_1_code e.1 = .ok e.2 := by decide +kernel
theorem dc_Gr_init (k : Nat) {pc : Nat} {i : Instr} {n : Nat} (h : dt_Gr_init[k]? = some (pc, i, n)) : decode prog_4_method_1_code pc = .ok (i, n) := rn_dc dt_Gr_init_ok k h
def dt_Gr_clear : List (Nat × Instr × Nat) := [(0, .aload_n 0, 1), (1, .iconst 0, 1), (2, .putfield 34, 3), (5, .aload_n 0, 1), (6, .iconst 0, 1), (7, .putfield 38, 3), (10, .return_, 1)]
theorem dt_Gr_clear_ok : ∀ e ∈ dt_Gr_clear, decode prog_4_method_2_code e.1 = .ok e.2 := by decide +kernel
theorem dc_Gr_clear (k : Nat) {pc : Nat} {i : Instr} {n : Nat} (h : dt_Gr_clear[k]? = some (pc, i, n)) : decode prog_4_method_2_code pc = .ok (i, n) := rn_dc dt_Gr_clear_ok k h
def dt_Gr_symbol : List (Nat × Instr × Nat) := [(0, .aload_n 0, 1), (1, .getfield 15, 3), (4, .iload_n 1, 1), (5, .iconst 4, 1), (6, .imul, 1), (7, .iload_n 2, 1), (8, .iadd, 1), (9, .iaload, 1), (10, .ireturn, 1)]
theorem dt_Gr_symbol_ok : ∀ e ∈ dt_Gr_symbol, decode prog_4_method_3_code e.1 = .ok e.2 := by decide +kernel
theorem dc_Gr_symbol (k : Nat) {pc : Nat} {i : Instr} {n : Nat} (h : dt_Gr_symbol[k]? = some (pc, i, n)) : decode prog_4_method_3_code pc = .ok (i, n) := rn_dc dt_Gr_symbol_ok k h
def dt_Gr_isNonterminal : List (Nat × Instr × Nat) := [(0, .iload_n 0, 1), (1, .bipush (6), 2), (3, .if_icmp .ge (7), 3), (6, .iconst 1, 1), (7, .goto (4), 3), (10, .iconst 0, 1), (11, .ireturn, 1)]
theorem dt_Gr_isNonterminal_ok : ∀ e ∈ dt_Gr_isNonterminal, decode prog_4_method_4_code e.1 = .ok e.2 := by decide +kernel
theorem dc_Gr_isNonterminal (k : Nat) {pc : Nat} {i : Instr} {n : Nat} (h : dt_Gr_isNonterminal[k]? = some (pc, i, n)) : decode prog_4_method_4_code pc = .ok (i, n) := rn_dc dt_Gr_isNonterminal_ok k h
def dt_Gr_nonterminalOf : List (Nat × Instr × Nat) := [(0, .iconst 0, 1), (1, .istore_n 2, 1), (2, .iload_n 2, 1), (3, .aload_n 0, 1), (4, .getfield 38, 3), (7, .if_icmp .ge (21), 3), (10, .aload_n 0, 1), (11, .getfield 28, 3), (14, .iload_n 2, 1), (15, .iaload, 1), (16, .iload_n 1, 1), (17, .if_icmp .ne (5), 3), (20, .iload_n 2, 1), (21, .ireturn, 1), (22, .iinc 2 (1), 3), (25, .goto (-23), 3), (28, .aload_n 0, 1), (29, .getfield 38, 3), (32, .bipush (6), 2), (34, .if_icmp .ne (5), 3), (37, .iconst (-1), 1), (38, .ireturn, 1), (39, .aload_n 0, 1), (40, .getfield 28, 3), (43, .aload_n 0, 1), (44, .getfield 38, 3), (47, .iload_n 1, 1), (48, .iastore, 1), (49, .aload_n 0, 1), (50, .dup, 1), (51, .getfield 38, 3), (54, .iconst 1, 1), (55, .iadd, 1), (56, .putfield 38, 3), (59, .aload_n 0, 1), (60, .getfield 38, 3), (63, .iconst 1, 1), (64, .isub, 1), (65, .ireturn, 1)]
theorem dt_Gr_nonterminalOf_ok : ∀ e ∈ dt_Gr_nonterminalOf, decode prog_4_method_5_code e.1 = .ok e.2 := by decide +kernel
theorem dc_Gr_nonterminalOf (k : Nat) {pc : Nat} {i : Instr} {n : Nat} (h : dt_Gr_nonterminalOf[k]? = some (pc, i, n)) : decode prog_4_method_5_code pc = .ok (i, n) := rn_dc dt_Gr_nonterminalOf_ok k h
def dt_Gr_findOrder : List (Nat × Instr × Nat) := [(0, .aload_n 0, 1), (1, .aload_n 0, 1), (2, .invokevirtual 44, 3), (5, .invokevirtual 48, 3), (8, .iconst 0, 1), (9, .istore_n 1, 1), (10, .iload_n 1, 1), (11, .aload_n 0, 1), (12, .getfield 38, 3), (15, .if_icmp .ge (24), 3), (18, .aload_n 0, 1), (19, .getfield 41, 3), (22, .iload_n 1, 1), (23, .iaload, 1), (24, .iload_n 1, 1), (25, .invokestatic 52, 3), (28, .ifCond .eq (5), 3), (31, .iconst 0, 1), (32, .ireturn, 1), (33, .iinc 1 (1), 3), (36, .goto (-26), 3), (39, .iconst 0, 1), (40, .istore_n 1, 1), (41, .iconst 0, 1), (42, .istore_n 2, 1), (43, .iload_n 2, 1), (44, .aload_n 0, 1), (45, .getfield 38, 3), (48, .if_icmp .ge (48), 3), (51, .iconst 0, 1), (52, .istore_n 3, 1), (53, .iload_n 3, 1), (54, .aload_n 0, 1), (55, .getfield 38, 3), (58, .if_icmp .ge (32), 3), (61, .aload_n 0, 1), (62, .getfield 41, 3), (65, .iload_n 3, 1), (66, .iaload, 1), (67, .invokestatic 56, 3), (70, .iload_n 2, 1), (71, .if_icmp .ne (13), 3), (74, .aload_n 0, 1), (75, .getfield 31, 3), (78, .iload_n 1, 1), (79, .iload_n 3, 1), (80, .iastore, 1), (81, .iinc 1 (1), 3), (84, .iinc 3 (1), 3), (87, .goto (-34), 3), (90, .iinc 2 (1), 3), (93, .goto (-50), 3), (96, .iconst 1, 1), (97, .ireturn, 1)]
theorem dt_Gr_findOrder_ok : ∀ e ∈ dt_Gr_findOrder, decode prog_4_method_6_code e.1 = .ok e.2 := by decide +kernel
theorem dc_Gr_findOrder (k : Nat) {pc : Nat} {i : Instr} {n : Nat} (h : dt_Gr_findOrder[k]? = some (pc, i, n)) : decode prog_4_method_6_code pc = .ok (i, n) := rn_dc dt_Gr_findOrder_ok k h
def dt_Gr_hasBit : List (Nat × Instr × Nat) := [(0, .iload_n 0, 1), (1, .iload_n 1, 1), (2, .ishr, 1), (3, .iconst 1, 1), (4, .iand, 1), (5, .ifCond .eq (7), 3), (8, .iconst 1, 1), (9, .goto (4), 3), (12, .iconst 0, 1), (13, .ireturn, 1)]
theorem dt_Gr_hasBit_ok : ∀ e ∈ dt_Gr_hasBit, decode prog_4_method_7_code e.1 = .ok e.2 := by decide +kernel
theorem dc_Gr_hasBit (k : Nat) {pc : Nat} {i : Instr} {n : Nat} (h : dt_Gr_hasBit[k]? = some (pc, i, n)) : decode prog_4_method_7_code pc = .ok (i, n) := rn_dc dt_Gr_hasBit_ok k h
def dt_Gr_emptyable : List (Nat × Instr × Nat) := [(0, .iconst 0, 1), (1, .istore_n 1, 1), (2, .iconst 0, 1), (3, .istore_n 2, 1), (4, .iload_n 2, 1), (5, .aload_n 0, 1), (6, .getfield 38, 3), (9, .if_icmp .ge (46), 3), (12, .iconst 0, 1), (13, .istore_n 3, 1), (14, .iload_n 3, 1), (15, .aload_n 0, 1), (16, .getfield 34, 3), (19, .if_icmp .ge (30), 3), (22, .aload_n 0, 1), (23, .iload_n 3, 1), (24, .iconst (-1), 1), (25, .iload_n 1, 1), (26, .invokevirtual 62, 3), (29, .ifCond .eq (14), 3), (32, .iload_n 1, 1), (33, .iconst 1, 1), (34, .aload_n 0, 1), (35, .getfield 9, 3), (38, .iload_n 3, 1), (39, .iaload, 1), (40, .ishl, 1), (41, .ior, 1), (42, .istore_n 1, 1), (43, .iinc 3 (1), 3), (46, .goto (-32), 3), (49, .iinc 2 (1), 3), (52, .goto (-48), 3), (55, .iload_n 1, 1), (56, .ireturn, 1)]
theorem dt_Gr_emptyable_ok : ∀ e ∈ dt_Gr_emptyable, decode prog_4_method_8_code e.1 = .ok e.2 := by decide +kernel
theorem dc_Gr_emptyable (k : Nat) {pc : Nat} {i : Instr} {n : Nat} (h : dt_Gr_emptyable[k]? = some (pc, i, n)) : decode prog_4_method_8_code pc = .ok (i, n) := rn_dc dt_Gr_emptyable_ok k h
def dt_Gr_vanishes : List (Nat × Instr × Nat) := [(0, .iconst 0, 1), (1, .istore 4, 2), (3, .iload 4, 2), (5, .aload_n 0, 1), (6, .getfield 18, 3), (9, .iload_n 1, 1), (10, .iaload, 1), (11, .if_icmp .ge (43), 3), (14, .aload_n 0, 1), (15, .iload_n 1, 1), (16, .iload 4, 2), (18, .invokevirtual 66, 3), (21, .istore 5, 2), (23, .iload 4, 2), (25, .iload_n 2, 1), (26, .if_icmp .eq (22), 3), (29, .iload 5, 2), (31, .invokestatic 70, 3), (34, .ifCond .eq (12), 3), (37, .iload_n 3, 1), (38, .iload 5, 2), (40, .invokestatic 52, 3), (43, .ifCond .ne (5), 3), (46, .iconst 0, 1), (47, .ireturn, 1), (48, .iinc 4 (1), 3), (51, .goto (-48), 3), (54, .iconst 1, 1), (55, .ireturn, 1)]
theorem dt_Gr_vanishes_ok : ∀ e ∈ dt_Gr_vanishes, decode prog_4_method_9_code e.1 = .ok e.2 := by decide +kernel
theorem dc_Gr_vanishes (k : Nat) {pc : Nat} {i : Instr} {n : Nat} (h : dt_Gr_vanishes[k]? = some (pc, i, n)) : decode prog_4_method_9_code pc = .ok (i, n) := rn_dc dt_Gr_vanishes_ok k h
def dt_Gr_findReached : List (Nat × Instr × Nat) := [(0, .iconst 0, 1), (1, .istore_n 2, 1), (2, .iload_n 2, 1), (3, .aload_n 0, 1), (4, .getfield 38, 3), (7, .if_icmp .ge (16), 3), (10, .aload_n 0, 1), (11, .getfield 41, 3), (14, .iload_n 2, 1), (15, .iconst 0, 1), (16, .iastore, 1), (17, .iinc 2 (1), 3), (20, .goto (-18), 3), (23, .iconst 0, 1), (24, .istore_n 2, 1), (25, .iload_n 2, 1), (26, .aload_n 0, 1), (27, .getfield 34, 3), (30, .if_icmp .ge (71), 3), (33, .iconst 0, 1), (34, .istore_n 3, 1), (35, .iload_n 3, 1), (36, .aload_n 0, 1), (37, .getfield 18, 3), (40, .iload_n 2, 1), (41, .iaload, 1), (42, .if_icmp .ge (53), 3), (45, .aload_n 0, 1), (46, .iload_n 2, 1), (47, .iload_n 3, 1), (48, .invokevirtual 66, 3), (51, .istore 4, 2), (53, .iload 4, 2), (55, .invokestatic 70, 3), (58, .ifCond .eq (31), 3), (61, .aload_n 0, 1), (62, .iload_n 2, 1), (63, .iload_n 3, 1), (64, .iload_n 1, 1), (65, .invokevirtual 62, 3), (68, .ifCond .eq (21), 3), (71, .aload_n 0, 1), (72, .getfield 41, 3), (75, .aload_n 0, 1), (76, .getfield 9, 3), (79, .iload_n 2, 1), (80, .iaload, 1), (81, .dup2, 1), (82, .iaload, 1), (83, .iconst 1, 1), (84, .iload 4, 2), (86, .ishl, 1), (87, .ior, 1), (88, .iastore, 1), (89, .iinc 3 (1), 3), (92, .goto (-57), 3), (95, .iinc 2 (1), 3), (98, .goto (-73), 3), (101, .aload_n 0, 1), (102, .invokevirtual 74, 3), (105, .return_, 1)]
theorem dt_Gr_findReached_ok : ∀ e ∈ dt_Gr_findReached, decode prog_4_method_10_code e.1 = .ok e.2 := by decide +kernel
theorem dc_Gr_findReached (k : Nat) {pc : Nat} {i : Instr} {n : Nat} (h : dt_Gr_findReached[k]? = some (pc, i, n)) : decode prog_4_method_10_code pc = .ok (i, n) := rn_dc dt_Gr_findReached_ok k h
def dt_Gr_closeReached : List (Nat × Instr × Nat) := [(0, .iconst 0, 1), (1, .istore_n 1, 1), (2, .iload_n 1, 1), (3, .aload_n 0, 1), (4, .getfield 38, 3), (7, .if_icmp .ge (53), 3), (10, .iconst 0, 1), (11, .istore_n 2, 1), (12, .iload_n 2, 1), (13, .aload_n 0, 1), (14, .getfield 38, 3), (17, .if_icmp .ge (37), 3), (20, .aload_n 0, 1), (21, .getfield 41, 3), (24, .iload_n 2, 1), (25, .iaload, 1), (26, .iload_n 1, 1), (27, .invokestatic 52, 3), (30, .ifCond .eq (18), 3), (33, .aload_n 0, 1), (34, .getfield 41, 3), (37, .iload_n 2, 1), (38, .dup2, 1), (39, .iaload, 1), (40, .aload_n 0, 1), (41, .getfield 41, 3), (44, .iload_n 1, 1), (45, .iaload, 1), (46, .ior, 1), (47, .iastore, 1), (48, .iinc 2 (1), 3), (51, .goto (-39), 3), (54, .iinc 1 (1), 3), (57, .goto (-55), 3), (60, .return_, 1)]
theorem dt_Gr_closeReached_ok : ∀ e ∈ dt_Gr_closeReached, decode prog_4_method_11_code e.1 = .ok e.2 := by decide +kernel
theorem dc_Gr_closeReached (k : Nat) {pc : Nat} {i : Instr} {n : Nat} (h : dt_Gr_closeReached[k]? = some (pc, i, n)) : decode prog_4_method_11_code pc = .ok (i, n) := rn_dc dt_Gr_closeReached_ok k h
def dt_Rd_init : List (Nat × Instr × Nat) := [(0, .aload_n 0, 1), (1, .invokespecial 3, 3), (4, .aload_n 0, 1), (5, .aload_n 1, 1), (6, .putfield 9, 3), (9, .aload_n 0, 1), (10, .aload_n 2, 1), (11, .putfield 15, 3), (14, .aload_n 0, 1), (15, .iconst 0, 1), (16, .putfield 19, 3), (19, .aload_n 0, 1), (20, .iconst (-1), 1), (21, .putfield 23, 3), (24, .return_, 1)]
theorem dt_Rd_init_ok : ∀ e ∈ dt_Rd_init, decode prog_5_method_1_code e.1 = .ok e.2 := by decide +kernel
theorem dc_Rd_init (k : Nat) {pc : Nat} {i : Instr} {n : Nat} (h : dt_Rd_init[k]? = some (pc, i, n)) : decode prog_5_method_1_code pc = .ok (i, n) := rn_dc dt_Rd_init_ok k h
def dt_Rd_firstWrongLine : List (Nat × Instr × Nat) := [(0, .aload_n 0, 1), (1, .getfield 15, 3), (4, .invokevirtual 26, 3), (7, .aload_n 0, 1), (8, .getfield 9, 3), (11, .invokevirtual 31, 3), (14, .istore_n 1, 1), (15, .iconst 1, 1), (16, .istore_n 2, 1), (17, .iload_n 2, 1), (18, .iload_n 1, 1), (19, .if_icmp .gt (50), 3), (22, .aload_n 0, 1), (23, .aload_n 0, 1), (24, .getfield 23, 3), (27, .iconst 1, 1), (28, .iadd, 1), (29, .putfield 19, 3), (32, .aload_n 0, 1), (33, .aload_n 0, 1), (34, .getfield 9, 3), (37, .aload_n 0, 1), (38, .getfield 19, 3), (41, .invokevirtual 37, 3), (44, .putfield 23, 3), (47, .aload_n 0, 1), (48, .invokevirtual 41, 3), (51, .ifCond .ne (12), 3), (54, .aload_n 0, 1), (55, .invokevirtual 45, 3), (58, .ifCond .ne (5), 3), (61, .iload_n 2, 1), (62, .ireturn, 1), (63, .iinc 2 (1), 3), (66, .goto (-49), 3), (69, .aload_n 0, 1), (70, .getfield 15, 3), (73, .getfield 48, 3), (76, .ifCond .ne (9), 3), (79, .iload_n 1, 1), (80, .iconst 1, 1), (81, .iadd, 1), (82, .goto (4), 3), (85, .iconst 0, 1), (86, .ireturn, 1)]
theorem dt_Rd_firstWrongLine_ok : ∀ e ∈ dt_Rd_firstWrongLine, decode prog_5_method_2_code e.1 = .ok e.2 := by decide +kernel
theorem dc_Rd_firstWrongLine (k : Nat) {pc : Nat} {i : Instr} {n : Nat} (h : dt_Rd_firstWrongLine[k]? = some (pc, i, n)) : decode prog_5_method_2_code pc = .ok (i, n) := rn_dc dt_Rd_firstWrongLine_ok k h
def dt_Rd_isLeftOut : List (Nat × Instr × Nat) := [(0, .aload_n 0, 1), (1, .getfield 19, 3), (4, .aload_n 0, 1), (5, .getfield 23, 3), (8, .if_icmp .eq (12), 3), (11, .aload_n 0, 1), (12, .bipush (35), 2), (14, .invokevirtual 51, 3), (17, .ifCond .eq (7), 3), (20, .iconst 1, 1), (21, .goto (4), 3), (24, .iconst 0, 1), (25, .ireturn, 1)]
theorem dt_Rd_isLeftOut_ok : ∀ e ∈ dt_Rd_isLeftOut, decode prog_5_method_3_code e.1 = .ok e.2 := by decide +kernel
theorem dc_Rd_isLeftOut (k : Nat) {pc : Nat} {i : Instr} {n : Nat} (h : dt_Rd_isLeftOut[k]? = some (pc, i, n)) : decode prog_5_method_3_code pc = .ok (i, n) := rn_dc dt_Rd_isLeftOut_ok k h
def dt_Rd_readRule : List (Nat × Instr × Nat) := [(0, .aload_n 0, 1), (1, .getfield 15, 3), (4, .getfield 48, 3), (7, .bipush (12), 2), (9, .if_icmp .ne (5), 3), (12, .iconst 0, 1), (13, .ireturn, 1), (14, .aload_n 0, 1), (15, .getfield 15, 3), (18, .getfield 48, 3), (21, .istore_n 1, 1), (22, .aload_n 0, 1), (23, .iload_n 1, 1), (24, .invokevirtual 55, 3), (27, .ifCond .eq (69), 3), (30, .aload_n 0, 1), (31, .bipush (61), 2), (33, .invokevirtual 59, 3), (36, .ifCond .eq (60), 3), (39, .aload_n 0, 1), (40, .iload_n 1, 1), (41, .invokevirtual 62, 3), (44, .ifCond .eq (52), 3), (47, .aload_n 0, 1), (48, .bipush (32), 2), (50, .invokevirtual 59, 3), (53, .ifCond .eq (43), 3), (56, .aload_n 0, 1), (57, .iload_n 1, 1), (58, .invokevirtual 65, 3), (61, .ifCond .eq (35), 3), (64, .aload_n 0, 1), (65, .bipush (32), 2), (67, .invokevirtual 59, 3), (70, .ifCond .eq (26), 3), (73, .aload_n 0, 1), (74, .iload_n 1, 1), (75, .invokevirtual 68, 3), (78, .ifCond .eq (18), 3), (81, .aload_n 0, 1), (82, .getfield 19, 3), (85, .aload_n 0, 1), (86, .getfield 23, 3), (89, .if_icmp .ne (7), 3), (92, .iconst 1, 1), (93, .goto (4), 3), (96, .iconst 0, 1), (97, .istore_n 2, 1), (98, .iload_n 2, 1), (99, .ifCond .eq (16), 3), (102, .aload_n 0, 1), (103, .getfield 15, 3), (106, .dup, 1), (107, .getfield 48, 3), (110, .iconst 1, 1), (111, .iadd, 1), (112, .putfield 48, 3), (115, .iload_n 2, 1), (116, .ireturn, 1)]
theorem dt_Rd_readRule_ok : ∀ e ∈ dt_Rd_readRule, decode prog_5_method_4_code e.1 = .ok e.2 := by decide +kernel
theorem dc_Rd_readRule (k : Nat) {pc : Nat} {i : Instr} {n : Nat} (h : dt_Rd_readRule[k]? = some (pc, i, n)) : decode prog_5_method_4_code pc = .ok (i, n) := rn_dc dt_Rd_readRule_ok k h
def dt_Rd_readHead : List (Nat × Instr × Nat) := [(0, .aload_n 0, 1), (1, .invokevirtual 71, 3), (4, .invokestatic 74, 3), (7, .ifCond .ne (5), 3), (10, .iconst 0, 1), (11, .ireturn, 1), (12, .aload_n 0, 1), (13, .getfield 15, 3), (16, .getfield 77, 3), (19, .iload_n 1, 1), (20, .aload_n 0, 1), (21, .invokevirtual 81, 3), (24, .iastore, 1), (25, .aload_n 0, 1), (26, .getfield 15, 3), (29, .getfield 77, 3), (32, .iload_n 1, 1), (33, .iaload, 1), (34, .iconst (-1), 1), (35, .if_icmp .eq (7), 3), (38, .iconst 1, 1), (39, .goto (4), 3), (42, .iconst 0, 1), (43, .ireturn, 1)]
theorem dt_Rd_readHead_ok : ∀ e ∈ dt_Rd_readHead, decode prog_5_method_5_code e.1 = .ok e.2 := by decide +kernel
theorem dc_Rd_readHead (k : Nat) {pc : Nat} {i : Instr} {n : Nat} (h : dt_Rd_readHead[k]? = some (pc, i, n)) : decode prog_5_method_5_code pc = .ok (i, n) := rn_dc dt_Rd_readHead_ok k h
def dt_Rd_readBody : List (Nat × Instr × Nat) := [(0, .iconst 0, 1), (1, .istore_n 2, 1), (2, .iload_n 2, 1), (3, .iconst 4, 1), (4, .if_icmp .ge (55), 3), (7, .aload_n 0, 1), (8, .invokevirtual 71, 3), (11, .invokestatic 74, 3), (14, .ifCond .ne (13), 3), (17, .aload_n 0, 1), (18, .invokevirtual 71, 3), (21, .invokestatic 84, 3), (24, .ifCond .eq (35), 3), (27, .aload_n 0, 1), (28, .invokevirtual 81, 3), (31, .istore_n 3, 1), (32, .iload_n 3, 1), (33, .iconst (-1), 1), (34, .if_icmp .ne (5), 3), (37, .iconst 0, 1), (38, .ireturn, 1), (39, .aload_n 0, 1), (40, .getfield 15, 3), (43, .getfield 87, 3), (46, .iload_n 1, 1), (47, .iconst 4, 1), (48, .imul, 1), (49, .iload_n 2, 1), (50, .iadd, 1), (51, .iload_n 3, 1), (52, .iastore, 1), (53, .iinc 2 (1), 3), (56, .goto (-54), 3), (59, .aload_n 0, 1), (60, .getfield 15, 3), (63, .getfield 90, 3), (66, .iload_n 1, 1), (67, .iload_n 2, 1), (68, .iastore, 1), (69, .iconst 1, 1), (70, .ireturn, 1)]
theorem dt_Rd_readBody_ok : ∀ e ∈ dt_Rd_readBody, decode prog_5_method_6_code e.1 = .ok e.2 := by decide +kernel
theorem dc_Rd_readBody (k : Nat) {pc : Nat} {i : Instr} {n : Nat} (h : dt_Rd_readBody[k]? = some (pc, i, n)) : decode prog_5_method_6_code pc = .ok (i, n) := rn_dc dt_Rd_readBody_ok k h
def dt_Rd_readSymbol : List (Nat × Instr × Nat) := [(0, .aload_n 0, 1), (1, .invokevirtual 71, 3), (4, .istore_n 1, 1), (5, .aload_n 0, 1), (6, .dup, 1), (7, .getfield 19, 3), (10, .iconst 1, 1), (11, .iadd, 1), (12, .putfield 19, 3), (15, .iload_n 1, 1), (16, .invokestatic 74, 3), (19, .ifCond .eq (14), 3), (22, .aload_n 0, 1), (23, .getfield 15, 3), (26, .iload_n 1, 1), (27, .invokevirtual 93, 3), (30, .goto (4), 3), (33, .iload_n 1, 1), (34, .ireturn, 1)]
theorem dt_Rd_readSymbol_ok : ∀ e ∈ dt_Rd_readSymbol, decode prog_5_method_7_code e.1 = .ok e.2 := by decide +kernel
theorem dc_Rd_readSymbol (k : Nat) {pc : Nat} {i : Instr} {n : Nat} (h : dt_Rd_readSymbol[k]? = some (pc, i, n)) : decode prog_5_method_7_code pc = .ok (i, n) := rn_dc dt_Rd_readSymbol_ok k h
def dt_Rd_readWeight : List (Nat × Instr × Nat) := [(0, .aload_n 0, 1), (1, .invokevirtual 96, 3), (4, .istore_n 2, 1), (5, .iconst 1, 1), (6, .istore_n 3, 1), (7, .iload_n 2, 1), (8, .iconst (-1), 1), (9, .if_icmp .eq (17), 3), (12, .aload_n 0, 1), (13, .bipush (47), 2), (15, .invokevirtual 59, 3), (18, .ifCond .eq (8), 3), (21, .aload_n 0, 1), (22, .invokevirtual 96, 3), (25, .istore_n 3, 1), (26, .iload_n 2, 1), (27, .iconst (-1), 1), (28, .if_icmp .eq (14), 3), (31, .iload_n 3, 1), (32, .iconst (-1), 1), (33, .if_icmp .eq (9), 3), (36, .iload_n 3, 1), (37, .iconst 2, 1), (38, .irem, 1), (39, .ifCond .ne (5), 3), (42, .iconst 0, 1), (43, .ireturn, 1), (44, .aload_n 0, 1), (45, .getfield 15, 3), (48, .getfield 99, 3), (51, .iload_n 1, 1), (52, .iload_n 2, 1), (53, .i2l, 1), (54, .iload_n 3, 1), (55, .i2l, 1), (56, .invokestatic 103, 3), (59, .lmul, 1), (60, .lastore, 1), (61, .iconst 1, 1), (62, .ireturn, 1)]
theorem dt_Rd_readWeight_ok : ∀ e ∈ dt_Rd_readWeight, decode prog_5_method_8_code e.1 = .ok e.2 := by decide +kernel
theorem dc_Rd_readWeight (k : Nat) {pc : Nat} {i : Instr} {n : Nat} (h : dt_Rd_readWeight[k]? = some (pc, i, n)) : decode prog_5_method_8_code pc = .ok (i, n) := rn_dc dt_Rd_readWeight_ok k h
def dt_Rd_readCost : List (Nat × Instr × Nat) := [(0, .aload_n 0, 1), (1, .invokevirtual 96, 3), (4, .istore_n 2, 1), (5, .aload_n 0, 1), (6, .getfield 15, 3), (9, .getfield 107, 3), (12, .iload_n 1, 1), (13, .iload_n 2, 1), (14, .iastore, 1), (15, .iload_n 2, 1), (16, .iconst (-1), 1), (17, .if_icmp .eq (13), 3), (20, .iload_n 2, 1), (21, .bipush (99), 2), (23, .if_icmp .gt (7), 3), (26, .iconst 1, 1), (27, .goto (4), 3), (30, .iconst 0, 1), (31, .ireturn, 1)]
theorem dt_Rd_readCost_ok : ∀ e ∈ dt_Rd_readCost, decode prog_5_method_9_code e.1 = .ok e.2 := by decide +kernel
theorem dc_Rd_readCost (k : Nat) {pc : Nat} {i : Instr} {n : Nat} (h : dt_Rd_readCost[k]? = some (pc, i, n)) : decode prog_5_method_9_code pc = .ok (i, n) := rn_dc dt_Rd_readCost_ok k h
def dt_Rd_readNumber : List (Nat × Instr × Nat) := [(0, .iconst 0, 1), (1, .istore_n 1, 1), (2, .iconst 0, 1), (3, .istore_n 2, 1), (4, .iload_n 2, 1), (5, .iconst 3, 1), (6, .if_icmp .ge (50), 3), (9, .aload_n 0, 1), (10, .invokevirtual 71, 3), (13, .bipush (48), 2), (15, .if_icmp .lt (41), 3), (18, .aload_n 0, 1), (19, .invokevirtual 71, 3), (22, .bipush (57), 2), (24, .if_icmp .gt (32), 3), (27, .bipush (10), 2), (29, .iload_n 1, 1), (30, .imul, 1), (31, .aload_n 0, 1), (32, .invokevirtual 71, 3), (35, .bipush (48), 2), (37, .isub, 1), (38, .iadd, 1), (39, .istore_n 1, 1), (40, .aload_n 0, 1), (41, .dup, 1), (42, .getfield 19, 3), (45, .iconst 1, 1), (46, .iadd, 1), (47, .putfield 19, 3), (50, .iinc 2 (1), 3), (53, .goto (-49), 3), (56, .iload_n 2, 1), (57, .ifCond .ne (7), 3), (60, .iconst (-1), 1), (61, .goto (4), 3), (64, .iload_n 1, 1), (65, .ireturn, 1)]
theorem dt_Rd_readNumber_ok : ∀ e ∈ dt_Rd_readNumber, decode prog_5_method_10_code e.1 = .ok e.2 := by decide +kernel
theorem dc_Rd_readNumber (k : Nat) {pc : Nat} {i : Instr} {n : Nat} (h : dt_Rd_readNumber[k]? = some (pc, i, n)) : decode prog_5_method_10_code pc = .ok (i, n) := rn_dc dt_Rd_readNumber_ok k h
def dt_Rd_inverse : List (Nat × Instr × Nat) := [(0, .lload_n 0, 1), (1, .lstore_n 2, 1), (2, .iconst 0, 1), (3, .istore 4, 2), (5, .iload 4, 2), (7, .iconst 5, 1), (8, .if_icmp .ge (19), 3), (11, .lload_n 2, 1), (12, .ldc2_w 110, 3), (15, .lload_n 0, 1), (16, .lload_n 2, 1), (17, .lmul, 1), (18, .lsub, 1), (19, .lmul, 1), (20, .lstore_n 2, 1), (21, .iinc 4 (1), 3), (24, .goto (-19), 3), (27, .lload_n 2, 1), (28, .lreturn, 1)]
theorem dt_Rd_inverse_ok : ∀ e ∈ dt_Rd_inverse, decode prog_5_method_11_code e.1 = .ok e.2 := by decide +kernel
theorem dc_Rd_inverse (k : Nat) {pc : Nat} {i : Instr} {n : Nat} (h : dt_Rd_inverse[k]? = some (pc, i, n)) : decode prog_5_method_11_code pc = .ok (i, n) := rn_dc dt_Rd_inverse_ok k h
def dt_Rd_seen : List (Nat × Instr × Nat) := [(0, .aload_n 0, 1), (1, .getfield 19, 3), (4, .aload_n 0, 1), (5, .getfield 23, 3), (8, .if_icmp .ge (18), 3), (11, .aload_n 0, 1), (12, .getfield 9, 3), (15, .getfield 112, 3), (18, .aload_n 0, 1), (19, .getfield 19, 3), (22, .caload, 1), (23, .goto (4), 3), (26, .iconst (-1), 1), (27, .ireturn, 1)]
theorem dt_Rd_seen_ok : ∀ e ∈ dt_Rd_seen, decode prog_5_method_12_code e.1 = .ok e.2 := by decide +kernel
theorem dc_Rd_seen (k : Nat) {pc : Nat} {i : Instr} {n : Nat} (h : dt_Rd_seen[k]? = some (pc, i, n)) : decode prog_5_method_12_code pc = .ok (i, n) := rn_dc dt_Rd_seen_ok k h
def dt_Rd_sees : List (Nat × Instr × Nat) := [(0, .aload_n 0, 1), (1, .invokevirtual 71, 3), (4, .iload_n 1, 1), (5, .if_icmp .ne (7), 3), (8, .iconst 1, 1), (9, .goto (4), 3), (12, .iconst 0, 1), (13, .ireturn, 1)]
theorem dt_Rd_sees_ok : ∀ e ∈ dt_Rd_sees, decode prog_5_method_13_code e.1 = .ok e.2 := by decide +kernel
theorem dc_Rd_sees (k : Nat) {pc : Nat} {i : Instr} {n : Nat} (h : dt_Rd_sees[k]? = some (pc, i, n)) : decode prog_5_method_13_code pc = .ok (i, n) := rn_dc dt_Rd_sees_ok k h
def dt_Rd_skip : List (Nat × Instr × Nat) := [(0, .aload_n 0, 1), (1, .iload_n 1, 1), (2, .invokevirtual 51, 3), (5, .ifCond .ne (5), 3), (8, .iconst 0, 1), (9, .ireturn, 1), (10, .aload_n 0, 1), (11, .dup, 1), (12, .getfield 19, 3), (15, .iconst 1, 1), (16, .iadd, 1), (17, .putfield 19, 3), (20, .iconst 1, 1), (21, .ireturn, 1)]
theorem dt_Rd_skip_ok : ∀ e ∈ dt_Rd_skip, decode prog_5_method_14_code e.1 = .ok e.2 := by decide +kernel
theorem dc_Rd_skip (k : Nat) {pc : Nat} {i : Instr} {n : Nat} (h : dt_Rd_skip[k]? = some (pc, i, n)) : decode prog_5_method_14_code pc = .ok (i, n) := rn_dc dt_Rd_skip_ok k h
def dt_Md_init : List (Nat × Instr × Nat) := [(0, .aload_n 0, 1), (1, .invokespecial 1, 3), (4, .aload_n 0, 1), (5, .sipush (300), 3), (8, .newarray .int, 2), (10, .putfield 7, 3), (13, .aload_n 0, 1), (14, .sipush (300), 3), (17, .newarray .int, 2), (19, .putfield 13, 3), (22, .aload_n 0, 1), (23, .sipush (300), 3), (26, .newarray .int, 2), (28, .putfield 16, 3), (31, .aload_n 0, 1), (32, .bipush (12), 2), (34, .newarray .int, 2), (36, .putfield 19, 3), (39, .aload_n 0, 1), (40, .bipush (12), 2), (42, .newarray .int, 2), (44, .putfield 22, 3), (47, .aload_n 0, 1), (48, .bipush (48), 2), (50, .newarray .int, 2), (52, .putfield 25, 3), (55, .aload_n 0, 1), (56, .bipush (12), 2), (58, .newarray .long, 2), (60, .putfield 28, 3), (63, .aload_n 0, 1), (64, .bipush (12), 2), (66, .newarray .int, 2), (68, .putfield 32, 3), (71, .aload_n 0, 1), (72, .bipush (6), 2), (74, .newarray .int, 2), (76, .putfield 35, 3), (79, .aload_n 0, 1), (80, .bipush (8), 2), (82, .newarray .int, 2), (84, .putfield 38, 3), (87, .aload_n 0, 1), (88, .bipush (6), 2), (90, .newarray .long, 2), (92, .putfield 41, 3), (95, .aload_n 0, 1), (96, .bipush (6), 2), (98, .newarray .int, 2), (100, .putfield 44, 3), (103, .aload_n 0, 1), (104, .sipush (486), 3), (107, .newarray .long, 2), (109, .putfield 47, 3), (112, .aload_n 0, 1), (113, .sipush (486), 3), (116, .newarray .int, 2), (118, .putfield 50, 3), (121, .aload_n 0, 1), (122, .bipush (36), 2), (124, .newarray .long, 2), (126, .putfield 53, 3), (129, .aload_n 0, 1), (130, .bipush (10), 2), (132, .newarray .long, 2), (134, .putfield 56, 3), (137, .aload_n 0, 1), (138, .bipush (10), 2), (140, .newarray .long, 2), (142, .putfield 59, 3), (145, .aload_n 0, 1), (146, .bipush (50), 2), (148, .newarray .int, 2), (150, .putfield 62, 3), (153, .aload_n 0, 1), (154, .bipush (100), 2), (156, .newarray .int, 2), (158, .putfield 65, 3), (161, .aload_n 0, 1), (162, .bipush (100), 2), (164, .newarray .int, 2), (166, .putfield 68, 3), (169, .aload_n 0, 1), (170, .bipush (100), 2), (172, .newarray .int, 2), (174, .putfield 71, 3), (177, .aload_n 0, 1), (178, .sipush (1500), 3), (181, .newarray .int, 2), (183, .putfield 74, 3), (186, .return_, 1)]
theorem dt_Md_init_ok : ∀ e ∈ dt_Md_init, decode prog_9_method_1_code e.1 = .ok e.2 := by decide +kernel
theorem dc_Md_init (k : Nat) {pc : Nat} {i : Instr} {n : Nat} (h : dt_Md_init[k]? = some (pc, i, n)) : decode prog_9_method_1_code pc = .ok (i, n) := rn_dc dt_Md_init_ok k h
def dt_Md_thrown : List (Nat × Instr × Nat) := [(0, .aload_n 0, 1), (1, .getfield 77, 3), (4, .ireturn, 1)]
theorem dt_Md_thrown_ok : ∀ e ∈ dt_Md_thrown, decode prog_9_method_2_code e.1 = .ok e.2 := by decide +kernel
theorem dc_Md_thrown (k : Nat) {pc : Nat} {i : Instr} {n : Nat} (h : dt_Md_thrown[k]? = some (pc, i, n)) : decode prog_9_method_2_code pc = .ok (i, n) := rn_dc dt_Md_thrown_ok k h
def dt_Md_put : List (Nat × Instr × Nat) := [(0, .aload_n 0, 1), (1, .iconst 0, 1), (2, .putfield 77, 3), (5, .iload_n 1, 1), (6, .iconst 1, 1), (7, .if_icmp .lt (21), 3), (10, .iload_n 1, 1), (11, .bipush (8), 2), (13, .if_icmp .gt (15), 3), (16, .aload_n 0, 1), (17, .getfield 81, 3), (20, .iload_n 1, 1), (21, .iadd, 1), (22, .sipush (300), 3), (25, .if_icmp .le (5), 3), (28, .iconst 0, 1), (29, .ireturn, 1), (30, .iconst 1, 1), (31, .istore 4, 2), (33, .iconst 0, 1), (34, .istore 5, 2), (36, .iload 5, 2), (38, .iload_n 1, 1), (39, .if_icmp .ge (56), 3), (42, .lload_n 2, 1), (43, .bipush (8), 2), (45, .iload 5, 2), (47, .imul, 1), (48, .lushr, 1), (49, .ldc2_w 84, 3), (52, .land, 1), (53, .l2i, 1), (54, .istore 6, 2), (56, .iload 4, 2), (58, .ifCond .eq (28), 3), (61, .iload 6, 2), (63, .bipush (10), 2), (65, .if_icmp .eq (17), 3), (68, .iload 6, 2), (70, .bipush (32), 2), (72, .if_icmp .lt (14), 3), (75, .iload 6, 2), (77, .bipush (126), 2), (79, .if_icmp .gt (7), 3), (82, .iconst 1, 1), (83, .goto (4), 3), (86, .iconst 0, 1), (87, .istore 4, 2), (89, .iinc 5 (1), 3), (92, .goto (-56), 3), (95, .iload_n 1, 1), (96, .iconst 1, 1), (97, .isub, 1), (98, .istore 5, 2), (100, .iload 5, 2), (102, .ifCond .lt (45), 3), (105, .iload 4, 2), (107, .ifCond .eq (40), 3), (110, .aload_n 0, 1), (111, .getfield 7, 3), (114, .aload_n 0, 1), (115, .getfield 81, 3), (118, .lload_n 2, 1), (119, .bipush (8), 2), (121, .iload 5, 2), (123, .imul, 1), (124, .lushr, 1), (125, .ldc2_w 84, 3), (128, .land, 1), (129, .l2i, 1), (130, .iastore, 1), (131, .aload_n 0, 1), (132, .dup, 1), (133, .getfield 81, 3), (136, .iconst 1, 1), (137, .iadd, 1), (138, .putfield 81, 3), (141, .iinc 5 (-1), 3), (144, .goto (-44), 3), (147, .iload 4, 2), (149, .ireturn, 1)]
theorem dt_Md_put_ok : ∀ e ∈ dt_Md_put, decode prog_9_method_3_code e.1 = .ok e.2 := by decide +kernel
theorem dc_Md_put (k : Nat) {pc : Nat} {i : Instr} {n : Nat} (h : dt_Md_put[k]? = some (pc, i, n)) : decode prog_9_method_3_code pc = .ok (i, n) := rn_dc dt_Md_put_ok k h
def dt_Md_scrap : List (Nat × Instr × Nat) := [(0, .aload_n 0, 1), (1, .iconst 0, 1), (2, .putfield 77, 3), (5, .aload_n 0, 1), (6, .iconst 0, 1), (7, .putfield 81, 3), (10, .return_, 1)]
theorem dt_Md_scrap_ok : ∀ e ∈ dt_Md_scrap, decode prog_9_method_4_code e.1 = .ok e.2 := by decide +kernel
theorem dc_Md_scrap (k : Nat) {pc : Nat} {i : Instr} {n : Nat} (h : dt_Md_scrap[k]? = some (pc, i, n)) : decode prog_9_method_4_code pc = .ok (i, n) := rn_dc dt_Md_scrap_ok k h
def dt_Md_next : List (Nat × Instr × Nat) := [(0, .aload_n 0, 1), (1, .getfield 86, 3), (4, .aload_n 0, 1), (5, .getfield 89, 3), (8, .if_icmp .ge (20), 3), (11, .aload_n 0, 1), (12, .getfield 13, 3), (15, .aload_n 0, 1), (16, .getfield 86, 3), (19, .iaload, 1), (20, .iload_n 1, 1), (21, .if_icmp .ne (7), 3), (24, .iconst 1, 1), (25, .goto (4), 3), (28, .iconst 0, 1), (29, .istore_n 2, 1), (30, .aload_n 0, 1), (31, .iload_n 2, 1), (32, .ifCond .eq (12), 3), (35, .aload_n 0, 1), (36, .getfield 86, 3), (39, .iconst 1, 1), (40, .iadd, 1), (41, .goto (7), 3), (44, .aload_n 0, 1), (45, .getfield 86, 3), (48, .putfield 86, 3), (51, .iload_n 2, 1), (52, .ireturn, 1)]
theorem dt_Md_next_ok : ∀ e ∈ dt_Md_next, decode prog_9_method_5_code e.1 = .ok e.2 := by decide +kernel
theorem dc_Md_next (k : Nat) {pc : Nat} {i : Instr} {n : Nat} (h : dt_Md_next[k]? = some (pc, i, n)) : decode prog_9_method_5_code pc = .ok (i, n) := rn_dc dt_Md_next_ok k h
def dt_Md_isCapital : List (Nat × Instr × Nat) := [(0, .iload_n 0, 1), (1, .bipush (65), 2), (3, .if_icmp .lt (13), 3), (6, .iload_n 0, 1), (7, .bipush (90), 2), (9, .if_icmp .gt (7), 3), (12, .iconst 1, 1), (13, .goto (4), 3), (16, .iconst 0, 1), (17, .ireturn, 1)]
theorem dt_Md_isCapital_ok : ∀ e ∈ dt_Md_isCapital, decode prog_9_method_6_code e.1 = .ok e.2 := by decide +kernel
theorem dc_Md_isCapital (k : Nat) {pc : Nat} {i : Instr} {n : Nat} (h : dt_Md_isCapital[k]? = some (pc, i, n)) : decode prog_9_method_6_code pc = .ok (i, n) := rn_dc dt_Md_isCapital_ok k h
def dt_Md_isSmall : List (Nat × Instr × Nat) := [(0, .iload_n 0, 1), (1, .bipush (97), 2), (3, .if_icmp .lt (13), 3), (6, .iload_n 0, 1), (7, .bipush (122), 2), (9, .if_icmp .gt (7), 3), (12, .iconst 1, 1), (13, .goto (4), 3), (16, .iconst 0, 1), (17, .ireturn, 1)]
theorem dt_Md_isSmall_ok : ∀ e ∈ dt_Md_isSmall, decode prog_9_method_7_code e.1 = .ok e.2 := by decide +kernel
theorem dc_Md_isSmall (k : Nat) {pc : Nat} {i : Instr} {n : Nat} (h : dt_Md_isSmall[k]? = some (pc, i, n)) : decode prog_9_method_7_code pc = .ok (i, n) := rn_dc dt_Md_isSmall_ok k h
def dt_Md_isFigure : List (Nat × Instr × Nat) := [(0, .aload_n 0, 1), (1, .getfield 86, 3), (4, .aload_n 0, 1), (5, .getfield 89, 3), (8, .if_icmp .ge (35), 3), (11, .aload_n 0, 1), (12, .getfield 13, 3), (15, .aload_n 0, 1), (16, .getfield 86, 3), (19, .iaload, 1), (20, .bipush (48), 2), (22, .if_icmp .lt (21), 3), (25, .aload_n 0, 1), (26, .getfield 13, 3), (29, .aload_n 0, 1), (30, .getfield 86, 3), (33, .iaload, 1), (34, .bipush (57), 2), (36, .if_icmp .gt (7), 3), (39, .iconst 1, 1), (40, .goto (4), 3), (43, .iconst 0, 1), (44, .ireturn, 1)]
theorem dt_Md_isFigure_ok : ∀ e ∈ dt_Md_isFigure, decode prog_9_method_8_code e.1 = .ok e.2 := by decide +kernel
theorem dc_Md_isFigure (k : Nat) {pc : Nat} {i : Instr} {n : Nat} (h : dt_Md_isFigure[k]? = some (pc, i, n)) : decode prog_9_method_8_code pc = .ok (i, n) := rn_dc dt_Md_isFigure_ok k h
def dt_Md_number : List (Nat × Instr × Nat) := [(0, .aload_n 0, 1), (1, .getfield 86, 3), (4, .istore_n 1, 1), (5, .aload_n 0, 1), (6, .iconst 0, 1), (7, .putfield 92, 3), (10, .aload_n 0, 1), (11, .invokevirtual 95, 3), (14, .ifCond .eq (50), 3), (17, .aload_n 0, 1), (18, .getfield 86, 3), (21, .iload_n 1, 1), (22, .iconst 3, 1), (23, .iadd, 1), (24, .if_icmp .ge (40), 3), (27, .aload_n 0, 1), (28, .bipush (10), 2), (30, .aload_n 0, 1), (31, .getfield 92, 3), (34, .imul, 1), (35, .aload_n 0, 1), (36, .getfield 13, 3), (39, .aload_n 0, 1), (40, .getfield 86, 3), (43, .iaload, 1), (44, .iadd, 1), (45, .bipush (48), 2), (47, .isub, 1), (48, .putfield 92, 3), (51, .aload_n 0, 1), (52, .dup, 1), (53, .getfield 86, 3), (56, .iconst 1, 1), (57, .iadd, 1), (58, .putfield 86, 3), (61, .goto (-51), 3), (64, .aload_n 0, 1), (65, .getfield 86, 3), (68, .iload_n 1, 1), (69, .if_icmp .le (14), 3), (72, .aload_n 0, 1), (73, .invokevirtual 95, 3), (76, .ifCond .ne (7), 3), (79, .iconst 1, 1), (80, .goto (4), 3), (83, .iconst 0, 1), (84, .ireturn, 1)]
theorem dt_Md_number_ok : ∀ e ∈ dt_Md_number, decode prog_9_method_9_code e.1 = .ok e.2 := by decide +kernel
theorem dc_Md_number (k : Nat) {pc : Nat} {i : Instr} {n : Nat} (h : dt_Md_number[k]? = some (pc, i, n)) : decode prog_9_method_9_code pc = .ok (i, n) := rn_dc dt_Md_number_ok k h
def dt_Md_symbol : List (Nat × Instr × Nat) := [(0, .iconst 0, 1), (1, .istore_n 2, 1), (2, .iload_n 2, 1), (3, .aload_n 0, 1), (4, .getfield 99, 3), (7, .if_icmp .ge (21), 3), (10, .aload_n 0, 1), (11, .getfield 35, 3), (14, .iload_n 2, 1), (15, .iaload, 1), (16, .iload_n 1, 1), (17, .if_icmp .ne (5), 3), (20, .iload_n 2, 1), (21, .ireturn, 1), (22, .iinc 2 (1), 3), (25, .goto (-23), 3), (28, .aload_n 0, 1), (29, .getfield 99, 3), (32, .bipush (6), 2), (34, .if_icmp .ne (5), 3), (37, .iconst (-1), 1), (38, .ireturn, 1), (39, .aload_n 0, 1), (40, .getfield 35, 3), (43, .aload_n 0, 1), (44, .getfield 99, 3), (47, .iload_n 1, 1), (48, .iastore, 1), (49, .aload_n 0, 1), (50, .dup, 1), (51, .getfield 99, 3), (54, .iconst 1, 1), (55, .iadd, 1), (56, .putfield 99, 3), (59, .aload_n 0, 1), (60, .getfield 99, 3), (63, .iconst 1, 1), (64, .isub, 1), (65, .ireturn, 1)]
theorem dt_Md_symbol_ok : ∀ e ∈ dt_Md_symbol, decode prog_9_method_10_code e.1 = .ok e.2 := by decide +kernel
theorem dc_Md_symbol (k : Nat) {pc : Nat} {i : Instr} {n : Nat} (h : dt_Md_symbol[k]? = some (pc, i, n)) : decode prog_9_method_10_code pc = .ok (i, n) := rn_dc dt_Md_symbol_ok k h
def dt_Md_inverse : List (Nat × Instr × Nat) := [(0, .lload_n 0, 1), (1, .lstore_n 2, 1), (2, .iconst 0, 1), (3, .istore 4, 2), (5, .iload 4, 2), (7, .bipush (6), 2), (9, .if_icmp .ge (19), 3), (12, .lload_n 2, 1), (13, .ldc2_w 102, 3), (16, .lload_n 0, 1), (17, .lload_n 2, 1), (18, .lmul, 1), (19, .lsub, 1), (20, .lmul, 1), (21, .lstore_n 2, 1), (22, .iinc 4 (1), 3), (25, .goto (-20), 3), (28, .lload_n 2, 1), (29, .lreturn, 1)]
theorem dt_Md_inverse_ok : ∀ e ∈ dt_Md_inverse, decode prog_9_method_11_code e.1 = .ok e.2 := by decide +kernel
theorem dc_Md_inverse (k : Nat) {pc : Nat} {i : Instr} {n : Nat} (h : dt_Md_inverse[k]? = some (pc, i, n)) : decode prog_9_method_11_code pc = .ok (i, n) := rn_dc dt_Md_inverse_ok k h
def dt_Md_body : List (Nat × Instr × Nat) := [(0, .aload_n 0, 1), (1, .getfield 22, 3), (4, .iload_n 1, 1), (5, .iconst 0, 1), (6, .iastore, 1), (7, .aload_n 0, 1), (8, .getfield 86, 3), (11, .aload_n 0, 1), (12, .getfield 89, 3), (15, .if_icmp .ge (129), 3), (18, .aload_n 0, 1), (19, .getfield 13, 3), (22, .aload_n 0, 1), (23, .getfield 86, 3), (26, .iaload, 1), (27, .invokestatic 104, 3), (30, .ifCond .ne (18), 3), (33, .aload_n 0, 1), (34, .getfield 13, 3), (37, .aload_n 0, 1), (38, .getfield 86, 3), (41, .iaload, 1), (42, .invokestatic 108, 3), (45, .ifCond .eq (99), 3), (48, .aload_n 0, 1), (49, .getfield 13, 3), (52, .aload_n 0, 1), (53, .getfield 86, 3), (56, .iaload, 1), (57, .invokestatic 104, 3), (60, .ifCond .eq (19), 3), (63, .aload_n 0, 1), (64, .aload_n 0, 1), (65, .getfield 13, 3), (68, .aload_n 0, 1), (69, .getfield 86, 3), (72, .iaload, 1), (73, .invokevirtual 111, 3), (76, .goto (12), 3), (79, .aload_n 0, 1), (80, .getfield 13, 3), (83, .aload_n 0, 1), (84, .getfield 86, 3), (87, .iaload, 1), (88, .istore_n 2, 1), (89, .iload_n 2, 1), (90, .ifCond .lt (13), 3), (93, .aload_n 0, 1), (94, .getfield 22, 3), (97, .iload_n 1, 1), (98, .iaload, 1), (99, .iconst 4, 1), (100, .if_icmp .ne (5), 3), (103, .iconst 0, 1), (104, .ireturn, 1), (105, .aload_n 0, 1), (106, .getfield 25, 3), (109, .iconst 4, 1), (110, .iload_n 1, 1), (111, .imul, 1), (112, .aload_n 0, 1), (113, .getfield 22, 3), (116, .iload_n 1, 1), (117, .iaload, 1), (118, .iadd, 1), (119, .iload_n 2, 1), (120, .iastore, 1), (121, .aload_n 0, 1), (122, .getfield 22, 3), (125, .iload_n 1, 1), (126, .dup2, 1), (127, .iaload, 1), (128, .iconst 1, 1), (129, .iadd, 1), (130, .iastore, 1), (131, .aload_n 0, 1), (132, .dup, 1), (133, .getfield 86, 3), (136, .iconst 1, 1), (137, .iadd, 1), (138, .putfield 86, 3), (141, .goto (-134), 3), (144, .iconst 1, 1), (145, .ireturn, 1)]
theorem dt_Md_body_ok : ∀ e ∈ dt_Md_body, decode prog_9_method_12_code e.1 = .ok e.2 := by decide +kernel
theorem dc_Md_body (k : Nat) {pc : Nat} {i : Instr} {n : Nat} (h : dt_Md_body[k]? = some (pc, i, n)) : decode prog_9_method_12_code pc = .ok (i, n) := rn_dc dt_Md_body_ok k h
def dt_Md_ruleLine : List (Nat × Instr × Nat) := [(0, .aload_n 0, 1), (1, .getfield 115, 3), (4, .bipush (12), 2), (6, .if_icmp .eq (29), 3), (9, .aload_n 0, 1), (10, .getfield 86, 3), (13, .aload_n 0, 1), (14, .getfield 89, 3), (17, .if_icmp .eq (18), 3), (20, .aload_n 0, 1), (21, .getfield 13, 3), (24, .aload_n 0, 1), (25, .getfield 86, 3), (28, .iaload, 1), (29, .invokestatic 104, 3), (32, .ifCond .ne (5), 3), (35, .iconst 0, 1), (36, .ireturn, 1), (37, .aload_n 0, 1), (38, .getfield 115, 3), (41, .istore_n 1, 1), (42, .aload_n 0, 1), (43, .getfield 19, 3), (46, .iload_n 1, 1), (47, .aload_n 0, 1), (48, .aload_n 0, 1), (49, .getfield 13, 3), (52, .aload_n 0, 1), (53, .getfield 86, 3), (56, .iaload, 1), (57, .invokevirtual 111, 3), (60, .iastore, 1), (61, .aload_n 0, 1), (62, .dup, 1), (63, .getfield 86, 3), (66, .iconst 1, 1), (67, .iadd, 1), (68, .putfield 86, 3), (71, .aload_n 0, 1), (72, .getfield 19, 3), (75, .iload_n 1, 1), (76, .iaload, 1), (77, .ifCond .lt (36), 3), (80, .aload_n 0, 1), (81, .bipush (61), 2), (83, .invokevirtual 118, 3), (86, .ifCond .eq (27), 3), (89, .aload_n 0, 1), (90, .iload_n 1, 1), (91, .invokevirtual 121, 3), (94, .ifCond .eq (19), 3), (97, .aload_n 0, 1), (98, .bipush (32), 2), (100, .invokevirtual 118, 3), (103, .ifCond .eq (10), 3), (106, .aload_n 0, 1), (107, .invokevirtual 124, 3), (110, .ifCond .ne (5), 3), (113, .iconst 0, 1), (114, .ireturn, 1), (115, .aload_n 0, 1), (116, .getfield 28, 3), (119, .iload_n 1, 1), (120, .aload_n 0, 1), (121, .getfield 92, 3), (124, .i2l, 1), (125, .lastore, 1), (126, .aload_n 0, 1), (127, .bipush (47), 2), (129, .invokevirtual 118, 3), (132, .ifCond .eq (42), 3), (135, .aload_n 0, 1), (136, .invokevirtual 124, 3), (139, .ifCond .eq (12), 3), (142, .aload_n 0, 1), (143, .getfield 92, 3), (146, .iconst 2, 1), (147, .irem, 1), (148, .ifCond .ne (5), 3), (151, .iconst 0, 1), (152, .ireturn, 1), (153, .aload_n 0, 1), (154, .getfield 28, 3), (157, .iload_n 1, 1), (158, .aload_n 0, 1), (159, .getfield 28, 3), (162, .iload_n 1, 1), (163, .laload, 1), (164, .aload_n 0, 1), (165, .getfield 92, 3), (168, .i2l, 1), (169, .invokestatic 127, 3), (172, .lmul, 1), (173, .lastore, 1), (174, .aload_n 0, 1), (175, .bipush (32), 2), (177, .invokevirtual 118, 3), (180, .ifCond .eq (30), 3), (183, .aload_n 0, 1), (184, .invokevirtual 124, 3), (187, .ifCond .eq (23), 3), (190, .aload_n 0, 1), (191, .getfield 92, 3), (194, .bipush (99), 2), (196, .if_icmp .gt (14), 3), (199, .aload_n 0, 1), (200, .getfield 86, 3), (203, .aload_n 0, 1), (204, .getfield 89, 3), (207, .if_icmp .eq (5), 3), (210, .iconst 0, 1), (211, .ireturn, 1), (212, .aload_n 0, 1), (213, .getfield 32, 3), (216, .iload_n 1, 1), (217, .aload_n 0, 1), (218, .getfield 92, 3), (221, .iastore, 1), (222, .aload_n 0, 1), (223, .dup, 1), (224, .getfield 115, 3), (227, .iconst 1, 1), (228, .iadd, 1), (229, .putfield 115, 3), (232, .iconst 1, 1), (233, .ireturn, 1)]
theorem dt_Md_ruleLine_ok : ∀ e ∈ dt_Md_ruleLine, decode prog_9_method_13_code e.1 = .ok e.2 := by decide +kernel
theorem dc_Md_ruleLine (k : Nat) {pc : Nat} {i : Instr} {n : Nat} (h : dt_Md_ruleLine[k]? = some (pc, i, n)) : decode prog_9_method_13_code pc = .ok (i, n) := rn_dc dt_Md_ruleLine_ok k h
def dt_Md_readGrammar : List (Nat × Instr × Nat) := [(0, .aload_n 0, 1), (1, .iconst 0, 1), (2, .putfield 115, 3), (5, .aload_n 0, 1), (6, .iconst 0, 1), (7, .putfield 99, 3), (10, .iconst 0, 1), (11, .istore_n 2, 1), (12, .iconst 1, 1), (13, .istore_n 3, 1), (14, .iload_n 2, 1), (15, .iload_n 1, 1), (16, .if_icmp .gt (90), 3), (19, .iload_n 2, 1), (20, .istore 4, 2), (22, .iload 4, 2), (24, .iload_n 1, 1), (25, .if_icmp .ge (21), 3), (28, .aload_n 0, 1), (29, .getfield 13, 3), (32, .iload 4, 2), (34, .iaload, 1), (35, .bipush (10), 2), (37, .if_icmp .eq (9), 3), (40, .iinc 4 (1), 3), (43, .goto (-21), 3), (46, .aload_n 0, 1), (47, .iload_n 2, 1), (48, .putfield 86, 3), (51, .aload_n 0, 1), (52, .iload 4, 2), (54, .putfield 89, 3), (57, .iload 4, 2), (59, .iload_n 2, 1), (60, .if_icmp .eq (14), 3), (63, .aload_n 0, 1), (64, .getfield 13, 3), (67, .iload_n 2, 1), (68, .iaload, 1), (69, .bipush (35), 2), (71, .if_icmp .ne (7), 3), (74, .iconst 1, 1), (75, .goto (4), 3), (78, .iconst 0, 1), (79, .istore 5, 2), (81, .iload 5, 2), (83, .ifCond .ne (12), 3), (86, .aload_n 0, 1), (87, .invokevirtual 131, 3), (90, .ifCond .ne (5), 3), (93, .iload_n 3, 1), (94, .ireturn, 1), (95, .iinc 3 (1), 3), (98, .iload 4, 2), (100, .iconst 1, 1), (101, .iadd, 1), (102, .istore_n 2, 1), (103, .goto (-89), 3), (106, .aload_n 0, 1), (107, .getfield 115, 3), (110, .ifCond .ne (7), 3), (113, .iload_n 3, 1), (114, .goto (4), 3), (117, .iconst 0, 1), (118, .ireturn, 1)]
theorem dt_Md_readGrammar_ok : ∀ e ∈ dt_Md_readGrammar, decode prog_9_method_14_code e.1 = .ok e.2 := by decide +kernel
theorem dc_Md_readGrammar (k : Nat) {pc : Nat} {i : Instr} {n : Nat} (h : dt_Md_readGrammar[k]? = some (pc, i, n)) : decode prog_9_method_14_code pc = .ok (i, n) := rn_dc dt_Md_readGrammar_ok k h
def dt_Md_isLetter : List (Nat × Instr × Nat) := [(0, .iload_n 1, 1), (1, .iconst 5, 1), (2, .if_icmp .le (7), 3), (5, .iconst 1, 1), (6, .goto (4), 3), (9, .iconst 0, 1), (10, .ireturn, 1)]
theorem dt_Md_isLetter_ok : ∀ e ∈ dt_Md_isLetter, decode prog_9_method_15_code e.1 = .ok e.2 := by decide +kernel
theorem dc_Md_isLetter (k : Nat) {pc : Nat} {i : Instr} {n : Nat} (h : dt_Md_isLetter[k]? = some (pc, i, n)) : decode prog_9_method_15_code pc = .ok (i, n) := rn_dc dt_Md_isLetter_ok k h
def dt_Md_emptyBody : List (Nat × Instr × Nat) := [(0, .lconst 1, 1), (1, .lstore_n 3, 1), (2, .iconst 0, 1), (3, .istore 5, 2), (5, .iload 5, 2), (7, .aload_n 0, 1), (8, .getfield 22, 3), (11, .iload_n 1, 1), (12, .iaload, 1), (13, .if_icmp .ge (55), 3), (16, .aload_n 0, 1), (17, .getfield 25, 3), (20, .iconst 4, 1), (21, .iload_n 1, 1), (22, .imul, 1), (23, .iload 5, 2), (25, .iadd, 1), (26, .iaload, 1), (27, .istore 6, 2), (29, .iload 5, 2), (31, .iload_n 2, 1), (32, .if_icmp .ne (7), 3), (35, .lload_n 3, 1), (36, .goto (25), 3), (39, .aload_n 0, 1), (40, .iload 6, 2), (42, .invokevirtual 134, 3), (45, .ifCond .eq (7), 3), (48, .lconst 0, 1), (49, .goto (12), 3), (52, .lload_n 3, 1), (53, .aload_n 0, 1), (54, .getfield 41, 3), (57, .iload 6, 2), (59, .laload, 1), (60, .lmul, 1), (61, .lstore_n 3, 1), (62, .iinc 5 (1), 3), (65, .goto (-60), 3), (68, .lload_n 3, 1), (69, .lreturn, 1)]
theorem dt_Md_emptyBody_ok : ∀ e ∈ dt_Md_emptyBody, decode prog_9_method_16_code e.1 = .ok e.2 := by decide +kernel
theorem dc_Md_emptyBody (k : Nat) {pc : Nat} {i : Instr} {n : Nat} (h : dt_Md_emptyBody[k]? = some (pc, i, n)) : decode prog_9_method_16_code pc = .ok (i, n) := rn_dc dt_Md_emptyBody_ok k h
def dt_Md_emptyBodyCost : List (Nat × Instr × Nat) := [(0, .iconst 0, 1), (1, .istore_n 3, 1), (2, .iconst 0, 1), (3, .istore 4, 2), (5, .iload 4, 2), (7, .aload_n 0, 1), (8, .getfield 22, 3), (11, .iload_n 1, 1), (12, .iaload, 1), (13, .if_icmp .ge (87), 3), (16, .aload_n 0, 1), (17, .getfield 25, 3), (20, .iconst 4, 1), (21, .iload_n 1, 1), (22, .imul, 1), (23, .iload 4, 2), (25, .iadd, 1), (26, .iaload, 1), (27, .istore 5, 2), (29, .iload 4, 2), (31, .iload_n 2, 1), (32, .if_icmp .eq (26), 3), (35, .aload_n 0, 1), (36, .iload 5, 2), (38, .invokevirtual 134, 3), (41, .ifCond .ne (13), 3), (44, .aload_n 0, 1), (45, .getfield 44, 3), (48, .iload 5, 2), (50, .iaload, 1), (51, .ifCond .ge (7), 3), (54, .iconst 1, 1), (55, .goto (4), 3), (58, .iconst 0, 1), (59, .istore 6, 2), (61, .iload_n 3, 1), (62, .ifCond .lt (8), 3), (65, .iload 6, 2), (67, .ifCond .eq (7), 3), (70, .iconst (-1), 1), (71, .goto (22), 3), (74, .iload 4, 2), (76, .iload_n 2, 1), (77, .if_icmp .ne (7), 3), (80, .iload_n 3, 1), (81, .goto (12), 3), (84, .iload_n 3, 1), (85, .aload_n 0, 1), (86, .getfield 44, 3), (89, .iload 5, 2), (91, .iaload, 1), (92, .iadd, 1), (93, .istore_n 3, 1), (94, .iinc 4 (1), 3), (97, .goto (-92), 3), (100, .iload_n 3, 1), (101, .ireturn, 1)]
theorem dt_Md_emptyBodyCost_ok : ∀ e ∈ dt_Md_emptyBodyCost, decode prog_9_method_17_code e.1 = .ok e.2 := by decide +kernel
theorem dc_Md_emptyBodyCost (k : Nat) {pc : Nat} {i : Instr} {n : Nat} (h : dt_Md_emptyBodyCost[k]? = some (pc, i, n)) : decode prog_9_method_17_code pc = .ok (i, n) := rn_dc dt_Md_emptyBodyCost_ok k h
def dt_Md_findEmptyable : List (Nat × Instr × Nat) := [(0, .iconst 0, 1), (1, .istore_n 1, 1), (2, .iload_n 1, 1), (3, .aload_n 0, 1), (4, .getfield 99, 3), (7, .if_icmp .ge (16), 3), (10, .aload_n 0, 1), (11, .getfield 44, 3), (14, .iload_n 1, 1), (15, .iconst (-1), 1), (16, .iastore, 1), (17, .iinc 1 (1), 3), (20, .goto (-18), 3), (23, .iconst 0, 1), (24, .istore_n 1, 1), (25, .iload_n 1, 1), (26, .aload_n 0, 1), (27, .getfield 99, 3), (30, .if_icmp .ge (60), 3), (33, .iconst 0, 1), (34, .istore_n 2, 1), (35, .iload_n 2, 1), (36, .aload_n 0, 1), (37, .getfield 115, 3), (40, .if_icmp .ge (44), 3), (43, .aload_n 0, 1), (44, .getfield 44, 3), (47, .aload_n 0, 1), (48, .getfield 19, 3), (51, .iload_n 2, 1), (52, .iaload, 1), (53, .aload_n 0, 1), (54, .iload_n 2, 1), (55, .iconst (-1), 1), (56, .invokevirtual 137, 3), (59, .ifCond .lt (7), 3), (62, .iconst 0, 1), (63, .goto (14), 3), (66, .aload_n 0, 1), (67, .getfield 44, 3), (70, .aload_n 0, 1), (71, .getfield 19, 3), (74, .iload_n 2, 1), (75, .iaload, 1), (76, .iaload, 1), (77, .iastore, 1), (78, .iinc 2 (1), 3), (81, .goto (-46), 3), (84, .iinc 1 (1), 3), (87, .goto (-62), 3), (90, .return_, 1)]
theorem dt_Md_findEmptyable_ok : ∀ e ∈ dt_Md_findEmptyable, decode prog_9_method_18_code e.1 = .ok e.2 := by decide +kernel
theorem dc_Md_findEmptyable (k : Nat) {pc : Nat} {i : Instr} {n : Nat} (h : dt_Md_findEmptyable[k]? = some (pc, i, n)) : decode prog_9_method_18_code pc = .ok (i, n) := rn_dc dt_Md_findEmptyable_ok k h
def dt_Md_loops : List (Nat × Instr × Nat) := [(0, .aload_n 0, 1), (1, .invokevirtual 141, 3), (4, .lconst 0, 1), (5, .lstore_n 1, 1), (6, .iconst 0, 1), (7, .istore_n 3, 1), (8, .iload_n 3, 1), (9, .aload_n 0, 1), (10, .getfield 115, 3), (13, .if_icmp .ge (82), 3), (16, .iconst 0, 1), (17, .istore 4, 2), (19, .iload 4, 2), (21, .aload_n 0, 1), (22, .getfield 22, 3), (25, .iload_n 3, 1), (26, .iaload, 1), (27, .if_icmp .ge (62), 3), (30, .aload_n 0, 1), (31, .getfield 25, 3), (34, .iconst 4, 1), (35, .iload_n 3, 1), (36, .imul, 1), (37, .iload 4, 2), (39, .iadd, 1), (40, .iaload, 1), (41, .istore 5, 2), (43, .aload_n 0, 1), (44, .iload 5, 2), (46, .invokevirtual 134, 3), (49, .ifCond .ne (32), 3), (52, .aload_n 0, 1), (53, .iload_n 3, 1), (54, .iload 4, 2), (56, .invokevirtual 137, 3), (59, .ifCond .lt (22), 3), (62, .lload_n 1, 1), (63, .lconst 1, 1), (64, .bipush (6), 2), (66, .aload_n 0, 1), (67, .getfield 19, 3), (70, .iload_n 3, 1), (71, .iaload, 1), (72, .imul, 1), (73, .iload 5, 2), (75, .iadd, 1), (76, .lshl, 1), (77, .lor, 1), (78, .goto (4), 3), (81, .lload_n 1, 1), (82, .lstore_n 1, 1), (83, .iinc 4 (1), 3), (86, .goto (-67), 3), (89, .iinc 3 (1), 3), (92, .goto (-84), 3), (95, .iconst 0, 1), (96, .istore_n 3, 1), (97, .iload_n 3, 1), (98, .bipush (6), 2), (100, .if_icmp .ge (64), 3), (103, .iconst 0, 1), (104, .istore 4, 2), (106, .iload 4, 2), (108, .bipush (6), 2), (110, .if_icmp .ge (48), 3), (113, .lload_n 1, 1), (114, .bipush (6), 2), (116, .iload 4, 2), (118, .imul, 1), (119, .iload_n 3, 1), (120, .iadd, 1), (121, .lshr, 1), (122, .lconst 1, 1), (123, .land, 1), (124, .lconst 1, 1), (125, .lcmp, 1), (126, .ifCond .ne (24), 3), (129, .lload_n 1, 1), (130, .lload_n 1, 1), (131, .bipush (6), 2), (133, .iload_n 3, 1), (134, .imul, 1), (135, .lshr, 1), (136, .ldc2_w 144, 3), (139, .land, 1), (140, .bipush (6), 2), (142, .iload 4, 2), (144, .imul, 1), (145, .lshl, 1), (146, .lor, 1), (147, .goto (4), 3), (150, .lload_n 1, 1), (151, .lstore_n 1, 1), (152, .iinc 4 (1), 3), (155, .goto (-49), 3), (158, .iinc 3 (1), 3), (161, .goto (-64), 3), (164, .iconst 0, 1), (165, .istore_n 3, 1), (166, .iconst 0, 1), (167, .istore 4, 2), (169, .iload 4, 2), (171, .bipush (6), 2), (173, .if_icmp .ge (33), 3), (176, .iload_n 3, 1), (177, .ifCond .ne (17), 3), (180, .lload_n 1, 1), (181, .bipush (7), 2), (183, .iload 4, 2), (185, .imul, 1), (186, .lshr, 1), (187, .lconst 1, 1), (188, .land, 1), (189, .lconst 1, 1), (190, .lcmp, 1), (191, .ifCond .ne (7), 3), (194, .iconst 1, 1), (195, .goto (4), 3), (198, .iconst 0, 1), (199, .istore_n 3, 1), (200, .iinc 4 (1), 3), (203, .goto (-34), 3), (206, .iload_n 3, 1), (207, .ireturn, 1)]
theorem dt_Md_loops_ok : ∀ e ∈ dt_Md_loops, decode prog_9_method_19_code e.1 = .ok e.2 := by decide +kernel
theorem dc_Md_loops (k : Nat) {pc : Nat} {i : Instr} {n : Nat} (h : dt_Md_loops[k]? = some (pc, i, n)) : decode prog_9_method_19_code pc = .ok (i, n) := rn_dc dt_Md_loops_ok k h
def dt_Md_fillEmpty : List (Nat × Instr × Nat) := [(0, .iconst 0, 1), (1, .istore_n 1, 1), (2, .iload_n 1, 1), (3, .bipush (6), 2), (5, .if_icmp .ge (23), 3), (8, .aload_n 0, 1), (9, .getfield 41, 3), (12, .iload_n 1, 1), (13, .lconst 0, 1), (14, .lastore, 1), (15, .aload_n 0, 1), (16, .getfield 44, 3), (19, .iload_n 1, 1), (20, .iconst (-1), 1), (21, .iastore, 1), (22, .iinc 1 (1), 3), (25, .goto (-23), 3), (28, .iconst 0, 1), (29, .istore_n 1, 1), (30, .iload_n 1, 1), (31, .aload_n 0, 1), (32, .getfield 99, 3), (35, .if_icmp .gt (143), 3), (38, .iconst 0, 1), (39, .istore_n 2, 1), (40, .iload_n 2, 1), (41, .aload_n 0, 1), (42, .getfield 99, 3), (45, .if_icmp .ge (127), 3), (48, .lconst 0, 1), (49, .lstore_n 3, 1), (50, .iconst (-1), 1), (51, .istore 5, 2), (53, .iconst 0, 1), (54, .istore 6, 2), (56, .iload 6, 2), (58, .aload_n 0, 1), (59, .getfield 115, 3), (62, .if_icmp .ge (89), 3), (65, .aload_n 0, 1), (66, .getfield 19, 3), (69, .iload 6, 2), (71, .iaload, 1), (72, .iload_n 2, 1), (73, .if_icmp .ne (72), 3), (76, .lload_n 3, 1), (77, .aload_n 0, 1), (78, .getfield 28, 3), (81, .iload 6, 2), (83, .laload, 1), (84, .aload_n 0, 1), (85, .iload 6, 2), (87, .iconst (-1), 1), (88, .invokevirtual 146, 3), (91, .lmul, 1), (92, .ladd, 1), (93, .lstore_n 3, 1), (94, .aload_n 0, 1), (95, .iload 6, 2), (97, .iconst (-1), 1), (98, .invokevirtual 137, 3), (101, .istore 7, 2), (103, .iload 7, 2), (105, .ifCond .lt (36), 3), (108, .iload 5, 2), (110, .ifCond .lt (18), 3), (113, .iload 7, 2), (115, .aload_n 0, 1), (116, .getfield 32, 3), (119, .iload 6, 2), (121, .iaload, 1), (122, .iadd, 1), (123, .iload 5, 2), (125, .if_icmp .ge (16), 3), (128, .iload 7, 2), (130, .aload_n 0, 1), (131, .getfield 32, 3), (134, .iload 6, 2), (136, .iaload, 1), (137, .iadd, 1), (138, .goto (5), 3), (141, .iload 5, 2), (143, .istore 5, 2), (145, .iinc 6 (1), 3), (148, .goto (-92), 3), (151, .aload_n 0, 1), (152, .getfield 41, 3), (155, .iload_n 2, 1), (156, .lload_n 3, 1), (157, .lastore, 1), (158, .aload_n 0, 1), (159, .getfield 44, 3), (162, .iload_n 2, 1), (163, .iload 5, 2), (165, .iastore, 1), (166, .iinc 2 (1), 3), (169, .goto (-129), 3), (172, .iinc 1 (1), 3), (175, .goto (-145), 3), (178, .return_, 1)]
theorem dt_Md_fillEmpty_ok : ∀ e ∈ dt_Md_fillEmpty, decode prog_9_method_20_code e.1 = .ok e.2 := by decide +kernel
theorem dc_Md_fillEmpty (k : Nat) {pc : Nat} {i : Instr} {n : Nat} (h : dt_Md_fillEmpty[k]? = some (pc, i, n)) : decode prog_9_method_20_code pc = .ok (i, n) := rn_dc dt_Md_fillEmpty_ok k h
def dt_Md_fillUnits : List (Nat × Instr × Nat) := [(0, .iconst 0, 1), (1, .istore_n 1, 1), (2, .iload_n 1, 1), (3, .bipush (36), 2), (5, .if_icmp .ge (16), 3), (8, .aload_n 0, 1), (9, .getfield 53, 3), (12, .iload_n 1, 1), (13, .lconst 0, 1), (14, .lastore, 1), (15, .iinc 1 (1), 3), (18, .goto (-16), 3), (21, .iconst 0, 1), (22, .istore_n 1, 1), (23, .iload_n 1, 1), (24, .aload_n 0, 1), (25, .getfield 99, 3), (28, .if_icmp .gt (178), 3), (31, .iconst 0, 1), (32, .istore_n 2, 1), (33, .iload_n 2, 1), (34, .aload_n 0, 1), (35, .getfield 99, 3), (38, .if_icmp .ge (162), 3), (41, .iconst 0, 1), (42, .istore_n 3, 1), (43, .iload_n 3, 1), (44, .aload_n 0, 1), (45, .getfield 99, 3), (48, .if_icmp .ge (146), 3), (51, .iload_n 2, 1), (52, .iload_n 3, 1), (53, .if_icmp .ne (7), 3), (56, .lconst 1, 1), (57, .goto (4), 3), (60, .lconst 0, 1), (61, .lstore 4, 2), (63, .iconst 0, 1), (64, .istore 6, 2), (66, .iload 6, 2), (68, .aload_n 0, 1), (69, .getfield 115, 3), (72, .if_icmp .ge (103), 3), (75, .iconst 0, 1), (76, .istore 7, 2), (78, .iload 7, 2), (80, .aload_n 0, 1), (81, .getfield 22, 3), (84, .iload 6, 2), (86, .iaload, 1), (87, .if_icmp .ge (82), 3), (90, .aload_n 0, 1), (91, .getfield 19, 3), (94, .iload 6, 2), (96, .iaload, 1), (97, .iload_n 2, 1), (98, .if_icmp .ne (71), 3), (101, .aload_n 0, 1), (102, .getfield 25, 3), (105, .iconst 4, 1), (106, .iload 6, 2), (108, .imul, 1), (109, .iload 7, 2), (111, .iadd, 1), (112, .iaload, 1), (113, .istore 8, 2), (115, .aload_n 0, 1), (116, .iload 8, 2), (118, .invokevirtual 134, 3), (121, .ifCond .eq (8), 3), (124, .lload 4, 2), (126, .goto (35), 3), (129, .lload 4, 2), (131, .aload_n 0, 1), (132, .getfield 28, 3), (135, .iload 6, 2), (137, .laload, 1), (138, .aload_n 0, 1), (139, .iload 6, 2), (141, .iload 7, 2), (143, .invokevirtual 146, 3), (146, .lmul, 1), (147, .aload_n 0, 1), (148, .getfield 53, 3), (151, .bipush (6), 2), (153, .iload 8, 2), (155, .imul, 1), (156, .iload_n 3, 1), (157, .iadd, 1), (158, .laload, 1), (159, .lmul, 1), (160, .ladd, 1), (161, .lstore 4, 2), (163, .iinc 7 (1), 3), (166, .goto (-88), 3), (169, .iinc 6 (1), 3), (172, .goto (-106), 3), (175, .aload_n 0, 1), (176, .getfield 53, 3), (179, .bipush (6), 2), (181, .iload_n 2, 1), (182, .imul, 1), (183, .iload_n 3, 1), (184, .iadd, 1), (185, .lload 4, 2), (187, .lastore, 1), (188, .iinc 3 (1), 3), (191, .goto (-148), 3), (194, .iinc 2 (1), 3), (197, .goto (-164), 3), (200, .iinc 1 (1), 3), (203, .goto (-180), 3), (206, .return_, 1)]
theorem dt_Md_fillUnits_ok : ∀ e ∈ dt_Md_fillUnits, decode prog_9_method_21_code e.1 = .ok e.2 := by decide +kernel
theorem dc_Md_fillUnits (k : Nat) {pc : Nat} {i : Instr} {n : Nat} (h : dt_Md_fillUnits[k]? = some (pc, i, n)) : decode prog_9_method_21_code pc = .ok (i, n) := rn_dc dt_Md_fillUnits_ok k h
def dt_Md_take : List (Nat × Instr × Nat) := [(0, .aload_n 0, 1), (1, .iload_n 1, 1), (2, .invokevirtual 150, 3), (5, .istore_n 2, 1), (6, .iload_n 2, 1), (7, .ifCond .le (10), 3), (10, .aload_n 0, 1), (11, .iload_n 2, 1), (12, .putfield 92, 3), (15, .iconst 1, 1), (16, .ireturn, 1), (17, .aload_n 0, 1), (18, .invokevirtual 153, 3), (21, .ifCond .eq (5), 3), (24, .iconst 2, 1), (25, .ireturn, 1), (26, .aload_n 0, 1), (27, .invokevirtual 156, 3), (30, .aload_n 0, 1), (31, .invokevirtual 159, 3), (34, .iconst 0, 1), (35, .ireturn, 1)]
theorem dt_Md_take_ok : ∀ e ∈ dt_Md_take, decode prog_9_method_22_code e.1 = .ok e.2 := by decide +kernel
theorem dc_Md_take (k : Nat) {pc : Nat} {i : Instr} {n : Nat} (h : dt_Md_take[k]? = some (pc, i, n)) : decode prog_9_method_22_code pc = .ok (i, n) := rn_dc dt_Md_take_ok k h
def dt_Md_load : List (Nat × Instr × Nat) := [(0, .iconst 0, 1), (1, .istore_n 1, 1), (2, .iload_n 1, 1), (3, .aload_n 0, 1), (4, .getfield 81, 3), (7, .if_icmp .ge (21), 3), (10, .aload_n 0, 1), (11, .getfield 13, 3), (14, .iload_n 1, 1), (15, .aload_n 0, 1), (16, .getfield 7, 3), (19, .iload_n 1, 1), (20, .iaload, 1), (21, .iastore, 1), (22, .iinc 1 (1), 3), (25, .goto (-23), 3), (28, .aload_n 0, 1), (29, .getfield 81, 3), (32, .istore_n 1, 1), (33, .aload_n 0, 1), (34, .iconst 0, 1), (35, .putfield 81, 3), (38, .aload_n 0, 1), (39, .aload_n 0, 1), (40, .iload_n 1, 1), (41, .invokevirtual 162, 3), (44, .putfield 77, 3), (47, .aload_n 0, 1), (48, .getfield 77, 3), (51, .ifCond .ne (53), 3), (54, .iconst 0, 1), (55, .istore_n 2, 1), (56, .iload_n 2, 1), (57, .iload_n 1, 1), (58, .if_icmp .ge (21), 3), (61, .aload_n 0, 1), (62, .getfield 16, 3), (65, .iload_n 2, 1), (66, .aload_n 0, 1), (67, .getfield 13, 3), (70, .iload_n 2, 1), (71, .iaload, 1), (72, .iastore, 1), (73, .iinc 2 (1), 3), (76, .goto (-20), 3), (79, .aload_n 0, 1), (80, .iload_n 1, 1), (81, .putfield 165, 3), (84, .aload_n 0, 1), (85, .iconst 1, 1), (86, .putfield 168, 3), (89, .aload_n 0, 1), (90, .iconst 0, 1), (91, .putfield 172, 3), (94, .aload_n 0, 1), (95, .iconst 0, 1), (96, .putfield 175, 3), (99, .aload_n 0, 1), (100, .getfield 115, 3), (103, .ireturn, 1), (104, .aload_n 0, 1), (105, .aload_n 0, 1), (106, .getfield 77, 3), (109, .iconst 1, 1), (110, .if_icmp .ne (10), 3), (113, .aload_n 0, 1), (114, .getfield 92, 3), (117, .goto (7), 3), (120, .aload_n 0, 1), (121, .getfield 178, 3), (124, .putfield 178, 3), (127, .iconst 0, 1), (128, .istore_n 2, 1), (129, .iload_n 2, 1), (130, .aload_n 0, 1), (131, .getfield 165, 3), (134, .if_icmp .ge (21), 3), (137, .aload_n 0, 1), (138, .getfield 13, 3), (141, .iload_n 2, 1), (142, .aload_n 0, 1), (143, .getfield 16, 3), (146, .iload_n 2, 1), (147, .iaload, 1), (148, .iastore, 1), (149, .iinc 2 (1), 3), (152, .goto (-23), 3), (155, .aload_n 0, 1), (156, .getfield 168, 3), (159, .ifCond .eq (14), 3), (162, .aload_n 0, 1), (163, .aload_n 0, 1), (164, .getfield 165, 3), (167, .invokevirtual 162, 3), (170, .istore_n 2, 1), (171, .iload_n 2, 1), (172, .ireturn, 1), (173, .iconst 0, 1), (174, .ireturn, 1)]
theorem dt_Md_load_ok : ∀ e ∈ dt_Md_load, decode prog_9_method_23_code e.1 = .ok e.2 := by decide +kernel
theorem dc_Md_load (k : Nat) {pc : Nat} {i : Instr} {n : Nat} (h : dt_Md_load[k]? = some (pc, i, n)) : decode prog_9_method_23_code pc = .ok (i, n) := rn_dc dt_Md_load_ok k h
def dt_Md_wrong : List (Nat × Instr × Nat) := [(0, .aload_n 0, 1), (1, .iconst 0, 1), (2, .putfield 77, 3), (5, .aload_n 0, 1), (6, .getfield 178, 3), (9, .ireturn, 1)]
theorem dt_Md_wrong_ok : ∀ e ∈ dt_Md_wrong, decode prog_9_method_24_code e.1 = .ok e.2 := by decide +kernel
theorem dc_Md_wrong (k : Nat) {pc : Nat} {i : Instr} {n : Nat} (h : dt_Md_wrong[k]? = some (pc, i, n)) : decode prog_9_method_24_code pc = .ok (i, n) := rn_dc dt_Md_wrong_ok k h
def dt_Md_cell : List (Nat × Instr × Nat) := [(0, .bipush (81), 2), (2, .iload_n 0, 1), (3, .imul, 1), (4, .bipush (9), 2), (6, .iload_n 1, 1), (7, .imul, 1), (8, .iadd, 1), (9, .iload_n 2, 1), (10, .iadd, 1), (11, .ireturn, 1)]
theorem dt_Md_cell_ok : ∀ e ∈ dt_Md_cell, decode prog_9_method_25_code e.1 = .ok e.2 := by decide +kernel
theorem dc_Md_cell (k : Nat) {pc : Nat} {i : Instr} {n : Nat} (h : dt_Md_cell[k]? = some (pc, i, n)) : decode prog_9_method_25_code pc = .ok (i, n) := rn_dc dt_Md_cell_ok k h
def dt_Md_sumOf : List (Nat × Instr × Nat) := [(0, .aload_n 0, 1), (1, .iload_n 1, 1), (2, .invokevirtual 134, 3), (5, .ifCond .eq (26), 3), (8, .iload_n 3, 1), (9, .iload_n 2, 1), (10, .iconst 1, 1), (11, .iadd, 1), (12, .if_icmp .ne (17), 3), (15, .aload_n 0, 1), (16, .getfield 38, 3), (19, .iload_n 2, 1), (20, .iaload, 1), (21, .iload_n 1, 1), (22, .if_icmp .ne (7), 3), (25, .lconst 1, 1), (26, .goto (4), 3), (29, .lconst 0, 1), (30, .lreturn, 1), (31, .iload_n 2, 1), (32, .iload_n 3, 1), (33, .if_icmp .ne (12), 3), (36, .aload_n 0, 1), (37, .getfield 41, 3), (40, .iload_n 1, 1), (41, .laload, 1), (42, .goto (14), 3), (45, .aload_n 0, 1), (46, .getfield 47, 3), (49, .iload_n 1, 1), (50, .iload_n 2, 1), (51, .iload_n 3, 1), (52, .invokestatic 181, 3), (55, .laload, 1), (56, .lreturn, 1)]
theorem dt_Md_sumOf_ok : ∀ e ∈ dt_Md_sumOf, decode prog_9_method_26_code e.1 = .ok e.2 := by decide +kernel
theorem dc_Md_sumOf (k : Nat) {pc : Nat} {i : Instr} {n : Nat} (h : dt_Md_sumOf[k]? = some (pc, i, n)) : decode prog_9_method_26_code pc = .ok (i, n) := rn_dc dt_Md_sumOf_ok k h
def dt_Md_costOf : List (Nat × Instr × Nat) := [(0, .aload_n 0, 1), (1, .iload_n 1, 1), (2, .invokevirtual 134, 3), (5, .ifCond .eq (26), 3), (8, .iload_n 3, 1), (9, .iload_n 2, 1), (10, .iconst 1, 1), (11, .iadd, 1), (12, .if_icmp .ne (17), 3), (15, .aload_n 0, 1), (16, .getfield 38, 3), (19, .iload_n 2, 1), (20, .iaload, 1), (21, .iload_n 1, 1), (22, .if_icmp .ne (7), 3), (25, .iconst 0, 1), (26, .goto (4), 3), (29, .iconst (-1), 1), (30, .ireturn, 1), (31, .iload_n 2, 1), (32, .iload_n 3, 1), (33, .if_icmp .ne (12), 3), (36, .aload_n 0, 1), (37, .getfield 44, 3), (40, .iload_n 1, 1), (41, .iaload, 1), (42, .goto (14), 3), (45, .aload_n 0, 1), (46, .getfield 50, 3), (49, .iload_n 1, 1), (50, .iload_n 2, 1), (51, .iload_n 3, 1), (52, .invokestatic 181, 3), (55, .iaload, 1), (56, .ireturn, 1)]
theorem dt_Md_costOf_ok : ∀ e ∈ dt_Md_costOf, decode prog_9_method_27_code e.1 = .ok e.2 := by decide +kernel
theorem dc_Md_costOf (k : Nat) {pc : Nat} {i : Instr} {n : Nat} (h : dt_Md_costOf[k]? = some (pc, i, n)) : decode prog_9_method_27_code pc = .ok (i, n) := rn_dc dt_Md_costOf_ok k h
def dt_Md_bodySum : List (Nat × Instr × Nat) := [(0, .iload_n 2, 1), (1, .istore 4, 2), (3, .iload 4, 2), (5, .iload_n 3, 1), (6, .if_icmp .gt (27), 3), (9, .aload_n 0, 1), (10, .getfield 56, 3), (13, .iload 4, 2), (15, .iload 4, 2), (17, .iload_n 2, 1), (18, .if_icmp .ne (7), 3), (21, .lconst 1, 1), (22, .goto (4), 3), (25, .lconst 0, 1), (26, .lastore, 1), (27, .iinc 4 (1), 3), (30, .goto (-27), 3), (33, .iconst 0, 1), (34, .istore 4, 2), (36, .iload 4, 2), (38, .aload_n 0, 1), (39, .getfield 22, 3), (42, .iload_n 1, 1), (43, .iaload, 1), (44, .if_icmp .ge (119), 3), (47, .iload_n 2, 1), (48, .istore 5, 2), (50, .iload 5, 2), (52, .iload_n 3, 1), (53, .if_icmp .gt (75), 3), (56, .aload_n 0, 1), (57, .getfield 59, 3), (60, .iload 5, 2), (62, .lconst 0, 1), (63, .lastore, 1), (64, .iload_n 2, 1), (65, .istore 6, 2), (67, .iload 6, 2), (69, .iload 5, 2), (71, .if_icmp .gt (51), 3), (74, .aload_n 0, 1), (75, .getfield 59, 3), (78, .iload 5, 2), (80, .aload_n 0, 1), (81, .getfield 59, 3), (84, .iload 5, 2), (86, .laload, 1), (87, .aload_n 0, 1), (88, .getfield 56, 3), (91, .iload 6, 2), (93, .laload, 1), (94, .aload_n 0, 1), (95, .aload_n 0, 1), (96, .getfield 25, 3), (99, .iconst 4, 1), (100, .iload_n 1, 1), (101, .imul, 1), (102, .iload 4, 2), (104, .iadd, 1), (105, .iaload, 1), (106, .iload 6, 2), (108, .iload 5, 2), (110, .invokevirtual 185, 3), (113, .lmul, 1), (114, .ladd, 1), (115, .lastore, 1), (116, .iinc 6 (1), 3), (119, .goto (-52), 3), (122, .iinc 5 (1), 3), (125, .goto (-75), 3), (128, .iload_n 2, 1), (129, .istore 5, 2), (131, .iload 5, 2), (133, .iload_n 3, 1), (134, .if_icmp .gt (23), 3), (137, .aload_n 0, 1), (138, .getfield 56, 3), (141, .iload 5, 2), (143, .aload_n 0, 1), (144, .getfield 59, 3), (147, .iload 5, 2), (149, .laload, 1), (150, .lastore, 1), (151, .iinc 5 (1), 3), (154, .goto (-23), 3), (157, .iinc 4 (1), 3), (160, .goto (-124), 3), (163, .aload_n 0, 1), (164, .getfield 56, 3), (167, .iload_n 3, 1), (168, .laload, 1), (169, .lreturn, 1)]
theorem dt_Md_bodySum_ok : ∀ e ∈ dt_Md_bodySum, decode prog_9_method_28_code e.1 = .ok e.2 := by decide +kernel
theorem dc_Md_bodySum (k : Nat) {pc : Nat} {i : Instr} {n : Nat} (h : dt_Md_bodySum[k]? = some (pc, i, n)) : decode prog_9_method_28_code pc = .ok (i, n) := rn_dc dt_Md_bodySum_ok k h
def dt_Md_bodyCost : List (Nat × Instr × Nat) := [(0, .aload_n 0, 1), (1, .getfield 22, 3), (4, .iload_n 1, 1), (5, .iaload, 1), (6, .istore 4, 2), (8, .iload_n 2, 1), (9, .istore 5, 2), (11, .iload 5, 2), (13, .iload_n 3, 1), (14, .if_icmp .gt (33), 3), (17, .aload_n 0, 1), (18, .getfield 62, 3), (21, .bipush (10), 2), (23, .iload 4, 2), (25, .imul, 1), (26, .iload 5, 2), (28, .iadd, 1), (29, .iload 5, 2), (31, .iload_n 3, 1), (32, .if_icmp .ne (7), 3), (35, .iconst 0, 1), (36, .goto (4), 3), (39, .iconst (-1), 1), (40, .iastore, 1), (41, .iinc 5 (1), 3), (44, .goto (-33), 3), (47, .iload 4, 2), (49, .iconst 1, 1), (50, .isub, 1), (51, .istore 5, 2), (53, .iload 5, 2), (55, .ifCond .lt (134), 3), (58, .iload_n 2, 1), (59, .istore 6, 2), (61, .iload 6, 2), (63, .iload_n 3, 1), (64, .if_icmp .gt (119), 3), (67, .iconst (-1), 1), (68, .istore 7, 2), (70, .iload 6, 2), (72, .istore 8, 2), (74, .iload 8, 2), (76, .iload_n 3, 1), (77, .if_icmp .gt (85), 3), (80, .aload_n 0, 1), (81, .aload_n 0, 1), (82, .getfield 25, 3), (85, .iconst 4, 1), (86, .iload_n 1, 1), (87, .imul, 1), (88, .iload 5, 2), (90, .iadd, 1), (91, .iaload, 1), (92, .iload 6, 2), (94, .iload 8, 2), (96, .invokevirtual 189, 3), (99, .istore 9, 2), (101, .aload_n 0, 1), (102, .getfield 62, 3), (105, .bipush (10), 2), (107, .iload 5, 2), (109, .imul, 1), (110, .bipush (10), 2), (112, .iadd, 1), (113, .iload 8, 2), (115, .iadd, 1), (116, .iaload, 1), (117, .istore 10, 2), (119, .iload 9, 2), (121, .ifCond .lt (31), 3), (124, .iload 10, 2), (126, .ifCond .lt (26), 3), (129, .iload 7, 2), (131, .ifCond .lt (13), 3), (134, .iload 9, 2), (136, .iload 10, 2), (138, .iadd, 1), (139, .iload 7, 2), (141, .if_icmp .ge (11), 3), (144, .iload 9, 2), (146, .iload 10, 2), (148, .iadd, 1), (149, .goto (5), 3), (152, .iload 7, 2), (154, .istore 7, 2), (156, .iinc 8 (1), 3), (159, .goto (-85), 3), (162, .aload_n 0, 1), (163, .getfield 62, 3), (166, .bipush (10), 2), (168, .iload 5, 2), (170, .imul, 1), (171, .iload 6, 2), (173, .iadd, 1), (174, .iload 7, 2), (176, .iastore, 1), (177, .iinc 6 (1), 3), (180, .goto (-119), 3), (183, .iinc 5 (-1), 3), (186, .goto (-133), 3), (189, .aload_n 0, 1), (190, .getfield 62, 3), (193, .iload_n 2, 1), (194, .iaload, 1), (195, .ireturn, 1)]
theorem dt_Md_bodyCost_ok : ∀ e ∈ dt_Md_bodyCost, decode prog_9_method_29_code e.1 = .ok e.2 := by decide +kernel
theorem dc_Md_bodyCost (k : Nat) {pc : Nat} {i : Instr} {n : Nat} (h : dt_Md_bodyCost[k]? = some (pc, i, n)) : decode prog_9_method_29_code pc = .ok (i, n) := rn_dc dt_Md_bodyCost_ok k h
def dt_Md_fillPart : List (Nat × Instr × Nat) := [(0, .iconst 0, 1), (1, .istore_n 3, 1), (2, .iload_n 3, 1), (3, .aload_n 0, 1), (4, .getfield 99, 3), (7, .if_icmp .ge (33), 3), (10, .aload_n 0, 1), (11, .getfield 47, 3), (14, .iload_n 3, 1), (15, .iload_n 1, 1), (16, .iload_n 2, 1), (17, .invokestatic 181, 3), (20, .lconst 0, 1), (21, .lastore, 1), (22, .aload_n 0, 1), (23, .getfield 50, 3), (26, .iload_n 3, 1), (27, .iload_n 1, 1), (28, .iload_n 2, 1), (29, .invokestatic 181, 3), (32, .iconst (-1), 1), (33, .iastore, 1), (34, .iinc 3 (1), 3), (37, .goto (-35), 3), (40, .iconst 0, 1), (41, .istore_n 3, 1), (42, .iload_n 3, 1), (43, .aload_n 0, 1), (44, .getfield 99, 3), (47, .if_icmp .gt (164), 3), (50, .iconst 0, 1), (51, .istore 4, 2), (53, .iload 4, 2), (55, .aload_n 0, 1), (56, .getfield 99, 3), (59, .if_icmp .ge (146), 3), (62, .lconst 0, 1), (63, .lstore 5, 2), (65, .iconst (-1), 1), (66, .istore 7, 2), (68, .iconst 0, 1), (69, .istore 8, 2), (71, .iload 8, 2), (73, .aload_n 0, 1), (74, .getfield 115, 3), (77, .if_icmp .ge (94), 3), (80, .aload_n 0, 1), (81, .getfield 19, 3), (84, .iload 8, 2), (86, .iaload, 1), (87, .iload 4, 2), (89, .if_icmp .ne (76), 3), (92, .lload 5, 2), (94, .aload_n 0, 1), (95, .getfield 28, 3), (98, .iload 8, 2), (100, .laload, 1), (101, .aload_n 0, 1), (102, .iload 8, 2), (104, .iload_n 1, 1), (105, .iload_n 2, 1), (106, .invokevirtual 192, 3), (109, .lmul, 1), (110, .ladd, 1), (111, .lstore 5, 2), (113, .aload_n 0, 1), (114, .iload 8, 2), (116, .iload_n 1, 1), (117, .iload_n 2, 1), (118, .invokevirtual 195, 3), (121, .istore 9, 2), (123, .iload 9, 2), (125, .ifCond .lt (36), 3), (128, .iload 7, 2), (130, .ifCond .lt (18), 3), (133, .iload 9, 2), (135, .aload_n 0, 1), (136, .getfield 32, 3), (139, .iload 8, 2), (141, .iaload, 1), (142, .iadd, 1), (143, .iload 7, 2), (145, .if_icmp .ge (16), 3), (148, .iload 9, 2), (150, .aload_n 0, 1), (151, .getfield 32, 3), (154, .iload 8, 2), (156, .iaload, 1), (157, .iadd, 1), (158, .goto (5), 3), (161, .iload 7, 2), (163, .istore 7, 2), (165, .iinc 8 (1), 3), (168, .goto (-97), 3), (171, .aload_n 0, 1), (172, .getfield 47, 3), (175, .iload 4, 2), (177, .iload_n 1, 1), (178, .iload_n 2, 1), (179, .invokestatic 181, 3), (182, .lload 5, 2), (184, .lastore, 1), (185, .aload_n 0, 1), (186, .getfield 50, 3), (189, .iload 4, 2), (191, .iload_n 1, 1), (192, .iload_n 2, 1), (193, .invokestatic 181, 3), (196, .iload 7, 2), (198, .iastore, 1), (199, .iinc 4 (1), 3), (202, .goto (-149), 3), (205, .iinc 3 (1), 3), (208, .goto (-166), 3), (211, .return_, 1)]
theorem dt_Md_fillPart_ok : ∀ e ∈ dt_Md_fillPart, decode prog_9_method_30_code e.1 = .ok e.2 := by decide +kernel
theorem dc_Md_fillPart (k : Nat) {pc : Nat} {i : Instr} {n : Nat} (h : dt_Md_fillPart[k]? = some (pc, i, n)) : decode prog_9_method_30_code pc = .ok (i, n) := rn_dc dt_Md_fillPart_ok k h
def dt_Md_parse : List (Nat × Instr × Nat) := [(0, .aload_n 0, 1), (1, .getfield 81, 3), (4, .istore_n 1, 1), (5, .aload_n 0, 1), (6, .iconst 0, 1), (7, .putfield 81, 3), (10, .iload_n 1, 1), (11, .bipush (8), 2), (13, .if_icmp .gt (7), 3), (16, .iconst 1, 1), (17, .goto (4), 3), (20, .iconst 0, 1), (21, .istore_n 2, 1), (22, .iconst 0, 1), (23, .istore_n 3, 1), (24, .iload_n 3, 1), (25, .iload_n 1, 1), (26, .if_icmp .ge (31), 3), (29, .iload_n 2, 1), (30, .ifCond .eq (19), 3), (33, .aload_n 0, 1), (34, .getfield 7, 3), (37, .iload_n 3, 1), (38, .iaload, 1), (39, .invokestatic 108, 3), (42, .ifCond .eq (7), 3), (45, .iconst 1, 1), (46, .goto (4), 3), (49, .iconst 0, 1), (50, .istore_n 2, 1), (51, .iinc 3 (1), 3), (54, .goto (-30), 3), (57, .aload_n 0, 1), (58, .iload_n 2, 1), (59, .ifCond .ne (7), 3), (62, .iconst 1, 1), (63, .goto (15), 3), (66, .aload_n 0, 1), (67, .getfield 168, 3), (70, .ifCond .ne (7), 3), (73, .iconst 2, 1), (74, .goto (4), 3), (77, .iconst 0, 1), (78, .putfield 77, 3), (81, .aload_n 0, 1), (82, .getfield 77, 3), (85, .ifCond .le (5), 3), (88, .iconst 0, 1), (89, .ireturn, 1), (90, .aload_n 0, 1), (91, .iconst 1, 1), (92, .putfield 172, 3), (95, .aload_n 0, 1), (96, .iconst 0, 1), (97, .putfield 175, 3), (100, .aload_n 0, 1), (101, .iload_n 1, 1), (102, .putfield 198, 3), (105, .iconst 0, 1), (106, .istore_n 3, 1), (107, .iload_n 3, 1), (108, .iload_n 1, 1), (109, .if_icmp .ge (21), 3), (112, .aload_n 0, 1), (113, .getfield 38, 3), (116, .iload_n 3, 1), (117, .aload_n 0, 1), (118, .getfield 7, 3), (121, .iload_n 3, 1), (122, .iaload, 1), (123, .iastore, 1), (124, .iinc 3 (1), 3), (127, .goto (-20), 3), (130, .iconst 1, 1), (131, .istore_n 3, 1), (132, .iload_n 3, 1), (133, .iload_n 1, 1), (134, .if_icmp .gt (36), 3), (137, .iconst 0, 1), (138, .istore 4, 2), (140, .iload 4, 2), (142, .iload_n 3, 1), (143, .iadd, 1), (144, .iload_n 1, 1), (145, .if_icmp .gt (19), 3), (148, .aload_n 0, 1), (149, .iload 4, 2), (151, .iload 4, 2), (153, .iload_n 3, 1), (154, .iadd, 1), (155, .invokevirtual 201, 3), (158, .iinc 4 (1), 3), (161, .goto (-21), 3), (164, .iinc 3 (1), 3), (167, .goto (-35), 3), (170, .aload_n 0, 1), (171, .iconst 0, 1), (172, .iconst 0, 1), (173, .iload_n 1, 1), (174, .invokevirtual 189, 3), (177, .ifCond .lt (7), 3), (180, .iconst 1, 1), (181, .goto (4), 3), (184, .iconst 0, 1), (185, .ireturn, 1)]
theorem dt_Md_parse_ok : ∀ e ∈ dt_Md_parse, decode prog_9_method_31_code e.1 = .ok e.2 := by decide +kernel
theorem dc_Md_parse (k : Nat) {pc : Nat} {i : Instr} {n : Nat} (h : dt_Md_parse[k]? = some (pc, i, n)) : decode prog_9_method_31_code pc = .ok (i, n) := rn_dc dt_Md_parse_ok k h
def dt_Md_ruleFor : List (Nat × Instr × Nat) := [(0, .iconst 0, 1), (1, .istore 4, 2), (3, .iconst 0, 1), (4, .istore 5, 2), (6, .iload 5, 2), (8, .ifCond .ne (79), 3), (11, .aload_n 0, 1), (12, .getfield 19, 3), (15, .iload 4, 2), (17, .iaload, 1), (18, .iload_n 1, 1), (19, .if_icmp .ne (14), 3), (22, .aload_n 0, 1), (23, .iload 4, 2), (25, .iload_n 2, 1), (26, .iload_n 3, 1), (27, .invokevirtual 195, 3), (30, .goto (4), 3), (33, .iconst (-1), 1), (34, .istore 6, 2), (36, .iload 6, 2), (38, .ifCond .lt (27), 3), (41, .iload 6, 2), (43, .aload_n 0, 1), (44, .getfield 32, 3), (47, .iload 4, 2), (49, .iaload, 1), (50, .iadd, 1), (51, .aload_n 0, 1), (52, .iload_n 1, 1), (53, .iload_n 2, 1), (54, .iload_n 3, 1), (55, .invokevirtual 189, 3), (58, .if_icmp .ne (7), 3), (61, .iconst 1, 1), (62, .goto (4), 3), (65, .iconst 0, 1), (66, .istore 5, 2), (68, .iload 5, 2), (70, .ifCond .eq (8), 3), (73, .iload 4, 2), (75, .goto (7), 3), (78, .iload 4, 2), (80, .iconst 1, 1), (81, .iadd, 1), (82, .istore 4, 2), (84, .goto (-78), 3), (87, .iload 4, 2), (89, .ireturn, 1)]
theorem dt_Md_ruleFor_ok : ∀ e ∈ dt_Md_ruleFor, decode prog_9_method_32_code e.1 = .ok e.2 := by decide +kernel
theorem dc_Md_ruleFor (k : Nat) {pc : Nat} {i : Instr} {n : Nat} (h : dt_Md_ruleFor[k]? = some (pc, i, n)) : decode prog_9_method_32_code pc = .ok (i, n) := rn_dc dt_Md_ruleFor_ok k h
def dt_Md_defer : List (Nat × Instr × Nat) := [(0, .aload_n 0, 1), (1, .getfield 74, 3), (4, .iconst 3, 1), (5, .iload_n 1, 1), (6, .imul, 1), (7, .iload_n 2, 1), (8, .iastore, 1), (9, .aload_n 0, 1), (10, .getfield 74, 3), (13, .iconst 3, 1), (14, .iload_n 1, 1), (15, .imul, 1), (16, .iconst 1, 1), (17, .iadd, 1), (18, .iload_n 3, 1), (19, .iastore, 1), (20, .aload_n 0, 1), (21, .getfield 74, 3), (24, .iconst 3, 1), (25, .iload_n 1, 1), (26, .imul, 1), (27, .iconst 2, 1), (28, .iadd, 1), (29, .iload 4, 2), (31, .iastore, 1), (32, .iload_n 1, 1), (33, .iconst 1, 1), (34, .iadd, 1), (35, .ireturn, 1)]
theorem dt_Md_defer_ok : ∀ e ∈ dt_Md_defer, decode prog_9_method_33_code e.1 = .ok e.2 := by decide +kernel
theorem dc_Md_defer (k : Nat) {pc : Nat} {i : Instr} {n : Nat} (h : dt_Md_defer[k]? = some (pc, i, n)) : decode prog_9_method_33_code pc = .ok (i, n) := rn_dc dt_Md_defer_ok k h
def dt_Md_turnOver : List (Nat × Instr × Nat) := [(0, .iload_n 1, 1), (1, .istore_n 3, 1), (2, .iload_n 3, 1), (3, .iload_n 2, 1), (4, .iconst 1, 1), (5, .isub, 1), (6, .iload_n 3, 1), (7, .iload_n 1, 1), (8, .isub, 1), (9, .isub, 1), (10, .if_icmp .ge (83), 3), (13, .iload_n 2, 1), (14, .iconst 1, 1), (15, .isub, 1), (16, .iload_n 3, 1), (17, .iload_n 1, 1), (18, .isub, 1), (19, .isub, 1), (20, .istore 4, 2), (22, .iconst 0, 1), (23, .istore 5, 2), (25, .iload 5, 2), (27, .iconst 3, 1), (28, .if_icmp .ge (59), 3), (31, .aload_n 0, 1), (32, .getfield 74, 3), (35, .iconst 3, 1), (36, .iload_n 3, 1), (37, .imul, 1), (38, .iload 5, 2), (40, .iadd, 1), (41, .iaload, 1), (42, .istore 6, 2), (44, .aload_n 0, 1), (45, .getfield 74, 3), (48, .iconst 3, 1), (49, .iload_n 3, 1), (50, .imul, 1), (51, .iload 5, 2), (53, .iadd, 1), (54, .aload_n 0, 1), (55, .getfield 74, 3), (58, .iconst 3, 1), (59, .iload 4, 2), (61, .imul, 1), (62, .iload 5, 2), (64, .iadd, 1), (65, .iaload, 1), (66, .iastore, 1), (67, .aload_n 0, 1), (68, .getfield 74, 3), (71, .iconst 3, 1), (72, .iload 4, 2), (74, .imul, 1), (75, .iload 5, 2), (77, .iadd, 1), (78, .iload 6, 2), (80, .iastore, 1), (81, .iinc 5 (1), 3), (84, .goto (-59), 3), (87, .iinc 3 (1), 3), (90, .goto (-88), 3), (93, .return_, 1)]
theorem dt_Md_turnOver_ok : ∀ e ∈ dt_Md_turnOver, decode prog_9_method_34_code e.1 = .ok e.2 := by decide +kernel
theorem dc_Md_turnOver (k : Nat) {pc : Nat} {i : Instr} {n : Nat} (h : dt_Md_turnOver[k]? = some (pc, i, n)) : decode prog_9_method_34_code pc = .ok (i, n) := rn_dc dt_Md_turnOver_ok k h
def dt_Md_unroll : List (Nat × Instr × Nat) := [(0, .aload_n 0, 1), (1, .iconst 0, 1), (2, .iload_n 1, 1), (3, .iload_n 2, 1), (4, .iload_n 3, 1), (5, .invokevirtual 205, 3), (8, .istore 4, 2), (10, .aload_n 0, 1), (11, .iconst 0, 1), (12, .putfield 175, 3), (15, .iload 4, 2), (17, .ifCond .le (278), 3), (20, .iinc 4 (-1), 3), (23, .aload_n 0, 1), (24, .getfield 74, 3), (27, .iconst 3, 1), (28, .iload 4, 2), (30, .imul, 1), (31, .iaload, 1), (32, .istore 5, 2), (34, .aload_n 0, 1), (35, .getfield 74, 3), (38, .iconst 3, 1), (39, .iload 4, 2), (41, .imul, 1), (42, .iconst 1, 1), (43, .iadd, 1), (44, .iaload, 1), (45, .istore 6, 2), (47, .aload_n 0, 1), (48, .getfield 74, 3), (51, .iconst 3, 1), (52, .iload 4, 2), (54, .imul, 1), (55, .iconst 2, 1), (56, .iadd, 1), (57, .iaload, 1), (58, .istore 7, 2), (60, .aload_n 0, 1), (61, .iload 5, 2), (63, .iload 6, 2), (65, .iload 7, 2), (67, .invokevirtual 209, 3), (70, .istore 8, 2), (72, .aload_n 0, 1), (73, .getfield 175, 3), (76, .bipush (100), 2), (78, .if_icmp .ge (36), 3), (81, .aload_n 0, 1), (82, .getfield 65, 3), (85, .aload_n 0, 1), (86, .getfield 175, 3), (89, .iload 8, 2), (91, .iastore, 1), (92, .aload_n 0, 1), (93, .getfield 68, 3), (96, .aload_n 0, 1), (97, .getfield 175, 3), (100, .iload 6, 2), (102, .iastore, 1), (103, .aload_n 0, 1), (104, .getfield 71, 3), (107, .aload_n 0, 1), (108, .getfield 175, 3), (111, .iload 7, 2), (113, .iastore, 1), (114, .aload_n 0, 1), (115, .dup, 1), (116, .getfield 175, 3), (119, .iconst 1, 1), (120, .iadd, 1), (121, .putfield 175, 3), (124, .iload 4, 2), (126, .istore 9, 2), (128, .iload 6, 2), (130, .istore 10, 2), (132, .iconst 0, 1), (133, .istore 11, 2), (135, .iload 11, 2), (137, .aload_n 0, 1), (138, .getfield 22, 3), (141, .iload 8, 2), (143, .iaload, 1), (144, .if_icmp .ge (140), 3), (147, .aload_n 0, 1), (148, .getfield 25, 3), (151, .iconst 4, 1), (152, .iload 8, 2), (154, .imul, 1), (155, .iload 11, 2), (157, .iadd, 1), (158, .iaload, 1), (159, .istore 12, 2), (161, .iload 10, 2), (163, .istore 13, 2), (165, .aload_n 0, 1), (166, .iload 12, 2), (168, .iload 10, 2), (170, .iload 13, 2), (172, .invokevirtual 189, 3), (175, .ifCond .lt (65), 3), (178, .aload_n 0, 1), (179, .getfield 62, 3), (182, .bipush (10), 2), (184, .iload 11, 2), (186, .imul, 1), (187, .bipush (10), 2), (189, .iadd, 1), (190, .iload 13, 2), (192, .iadd, 1), (193, .iaload, 1), (194, .ifCond .lt (46), 3), (197, .aload_n 0, 1), (198, .iload 12, 2), (200, .iload 10, 2), (202, .iload 13, 2), (204, .invokevirtual 189, 3), (207, .aload_n 0, 1), (208, .getfield 62, 3), (211, .bipush (10), 2), (213, .iload 11, 2), (215, .imul, 1), (216, .bipush (10), 2), (218, .iadd, 1), (219, .iload 13, 2), (221, .iadd, 1), (222, .iaload, 1), (223, .iadd, 1), (224, .aload_n 0, 1), (225, .getfield 62, 3), (228, .bipush (10), 2), (230, .iload 11, 2), (232, .imul, 1), (233, .iload 10, 2), (235, .iadd, 1), (236, .iaload, 1), (237, .if_icmp .eq (9), 3), (240, .iinc 13 (1), 3), (243, .goto (-78), 3), (246, .aload_n 0, 1), (247, .iload 12, 2), (249, .invokevirtual 134, 3), (252, .ifCond .eq (8), 3), (255, .iload 4, 2), (257, .goto (15), 3), (260, .aload_n 0, 1), (261, .iload 4, 2), (263, .iload 12, 2), (265, .iload 10, 2), (267, .iload 13, 2), (269, .invokevirtual 205, 3), (272, .istore 4, 2), (274, .iload 13, 2), (276, .istore 10, 2), (278, .iinc 11 (1), 3), (281, .goto (-146), 3), (284, .aload_n 0, 1), (285, .iload 9, 2), (287, .iload 4, 2), (289, .invokevirtual 212, 3), (292, .goto (-277), 3), (295, .return_, 1)]
theorem dt_Md_unroll_ok : ∀ e ∈ dt_Md_unroll, decode prog_9_method_35_code e.1 = .ok e.2 := by decide +kernel
theorem dc_Md_unroll (k : Nat) {pc : Nat} {i : Instr} {n : Nat} (h : dt_Md_unroll[k]? = some (pc, i, n)) : decode prog_9_method_35_code pc = .ok (i, n) := rn_dc dt_Md_unroll_ok k h
def dt_Md_isSymbol : List (Nat × Instr × Nat) := [(0, .aload_n 0, 1), (1, .getfield 168, 3), (4, .ifCond .eq (19), 3), (7, .iload_n 1, 1), (8, .ifCond .lt (15), 3), (11, .iload_n 1, 1), (12, .aload_n 0, 1), (13, .getfield 99, 3), (16, .if_icmp .ge (7), 3), (19, .iconst 1, 1), (20, .goto (4), 3), (23, .iconst 0, 1), (24, .ireturn, 1)]
theorem dt_Md_isSymbol_ok : ∀ e ∈ dt_Md_isSymbol, decode prog_9_method_36_code e.1 = .ok e.2 := by decide +kernel
theorem dc_Md_isSymbol (k : Nat) {pc : Nat} {i : Instr} {n : Nat} (h : dt_Md_isSymbol[k]? = some (pc, i, n)) : decode prog_9_method_36_code pc = .ok (i, n) := rn_dc dt_Md_isSymbol_ok k h
def dt_Md_refusal : List (Nat × Instr × Nat) := [(0, .aload_n 0, 1), (1, .iload_n 1, 1), (2, .invokevirtual 215, 3), (5, .ifCond .ne (7), 3), (8, .iconst 1, 1), (9, .goto (32), 3), (12, .aload_n 0, 1), (13, .getfield 172, 3), (16, .ifCond .eq (20), 3), (19, .iload_n 2, 1), (20, .ifCond .lt (16), 3), (23, .iload_n 2, 1), (24, .iload_n 3, 1), (25, .if_icmp .gt (11), 3), (28, .iload_n 3, 1), (29, .aload_n 0, 1), (30, .getfield 198, 3), (33, .if_icmp .le (7), 3), (36, .iconst 2, 1), (37, .goto (4), 3), (40, .iconst 0, 1), (41, .ireturn, 1)]
theorem dt_Md_refusal_ok : ∀ e ∈ dt_Md_refusal, decode prog_9_method_37_code e.1 = .ok e.2 := by decide +kernel
theorem dc_Md_refusal (k : Nat) {pc : Nat} {i : Instr} {n : Nat} (h : dt_Md_refusal[k]? = some (pc, i, n)) : decode prog_9_method_37_code pc = .ok (i, n) := rn_dc dt_Md_refusal_ok k h
def dt_Md_count : List (Nat × Instr × Nat) := [(0, .aload_n 0, 1), (1, .iconst 0, 1), (2, .putfield 77, 3), (5, .iload_n 1, 1), (6, .ifCond .lt (27), 3), (9, .iload_n 1, 1), (10, .iconst 2, 1), (11, .if_icmp .gt (22), 3), (14, .aload_n 0, 1), (15, .getfield 168, 3), (18, .ifCond .eq (15), 3), (21, .iload_n 1, 1), (22, .iconst 2, 1), (23, .if_icmp .ne (12), 3), (26, .aload_n 0, 1), (27, .getfield 172, 3), (30, .ifCond .ne (5), 3), (33, .iconst (-1), 1), (34, .ireturn, 1), (35, .iload_n 1, 1), (36, .ifCond .ne (10), 3), (39, .aload_n 0, 1), (40, .getfield 115, 3), (43, .goto (19), 3), (46, .iload_n 1, 1), (47, .iconst 1, 1), (48, .if_icmp .ne (10), 3), (51, .aload_n 0, 1), (52, .getfield 99, 3), (55, .goto (7), 3), (58, .aload_n 0, 1), (59, .getfield 198, 3), (62, .ireturn, 1)]
theorem dt_Md_count_ok : ∀ e ∈ dt_Md_count, decode prog_9_method_38_code e.1 = .ok e.2 := by decide +kernel
theorem dc_Md_count (k : Nat) {pc : Nat} {i : Instr} {n : Nat} (h : dt_Md_count[k]? = some (pc, i, n)) : decode prog_9_method_38_code pc = .ok (i, n) := rn_dc dt_Md_count_ok k h
def dt_Md_name : List (Nat × Instr × Nat) := [(0, .aload_n 0, 1), (1, .aload_n 0, 1), (2, .iload_n 1, 1), (3, .invokevirtual 215, 3), (6, .ifCond .eq (7), 3), (9, .iconst 0, 1), (10, .goto (4), 3), (13, .iconst 1, 1), (14, .putfield 77, 3), (17, .aload_n 0, 1), (18, .getfield 77, 3), (21, .ifCond .le (7), 3), (24, .iconst 0, 1), (25, .goto (9), 3), (28, .aload_n 0, 1), (29, .getfield 35, 3), (32, .iload_n 1, 1), (33, .iaload, 1), (34, .ireturn, 1)]
theorem dt_Md_name_ok : ∀ e ∈ dt_Md_name, decode prog_9_method_39_code e.1 = .ok e.2 := by decide +kernel
theorem dc_Md_name (k : Nat) {pc : Nat} {i : Instr} {n : Nat} (h : dt_Md_name[k]? = some (pc, i, n)) : decode prog_9_method_39_code pc = .ok (i, n) := rn_dc dt_Md_name_ok k h
def dt_Md_weight : List (Nat × Instr × Nat) := [(0, .aload_n 0, 1), (1, .aload_n 0, 1), (2, .getfield 168, 3), (5, .ifCond .eq (19), 3), (8, .iload_n 1, 1), (9, .ifCond .lt (15), 3), (12, .iload_n 1, 1), (13, .aload_n 0, 1), (14, .getfield 115, 3), (17, .if_icmp .ge (7), 3), (20, .iconst 0, 1), (21, .goto (4), 3), (24, .iconst 1, 1), (25, .putfield 77, 3), (28, .aload_n 0, 1), (29, .getfield 77, 3), (32, .ifCond .le (7), 3), (35, .lconst 0, 1), (36, .goto (9), 3), (39, .aload_n 0, 1), (40, .getfield 28, 3), (43, .iload_n 1, 1), (44, .laload, 1), (45, .lreturn, 1)]
theorem dt_Md_weight_ok : ∀ e ∈ dt_Md_weight, decode prog_9_method_40_code e.1 = .ok e.2 := by decide +kernel
theorem dc_Md_weight (k : Nat) {pc : Nat} {i : Instr} {n : Nat} (h : dt_Md_weight[k]? = some (pc, i, n)) : decode prog_9_method_40_code pc = .ok (i, n) := rn_dc dt_Md_weight_ok k h
def dt_Md_empty : List (Nat × Instr × Nat) := [(0, .aload_n 0, 1), (1, .aload_n 0, 1), (2, .iload_n 1, 1), (3, .invokevirtual 215, 3), (6, .ifCond .eq (7), 3), (9, .iconst 0, 1), (10, .goto (4), 3), (13, .iconst 1, 1), (14, .putfield 77, 3), (17, .aload_n 0, 1), (18, .getfield 77, 3), (21, .ifCond .le (7), 3), (24, .lconst 0, 1), (25, .goto (9), 3), (28, .aload_n 0, 1), (29, .getfield 41, 3), (32, .iload_n 1, 1), (33, .laload, 1), (34, .lreturn, 1)]
theorem dt_Md_empty_ok : ∀ e ∈ dt_Md_empty, decode prog_9_method_41_code e.1 = .ok e.2 := by decide +kernel
theorem dc_Md_empty (k : Nat) {pc : Nat} {i : Instr} {n : Nat} (h : dt_Md_empty[k]? = some (pc, i, n)) : decode prog_9_method_41_code pc = .ok (i, n) := rn_dc dt_Md_empty_ok k h
def dt_Md_unit : List (Nat × Instr × Nat) := [(0, .aload_n 0, 1), (1, .aload_n 0, 1), (2, .iload_n 1, 1), (3, .invokevirtual 215, 3), (6, .ifCond .eq (15), 3), (9, .aload_n 0, 1), (10, .iload_n 2, 1), (11, .invokevirtual 215, 3), (14, .ifCond .eq (7), 3), (17, .iconst 0, 1), (18, .goto (4), 3), (21, .iconst 1, 1), (22, .putfield 77, 3), (25, .aload_n 0, 1), (26, .getfield 77, 3), (29, .ifCond .le (7), 3), (32, .lconst 0, 1), (33, .goto (14), 3), (36, .aload_n 0, 1), (37, .getfield 53, 3), (40, .bipush (6), 2), (42, .iload_n 1, 1), (43, .imul, 1), (44, .iload_n 2, 1), (45, .iadd, 1), (46, .laload, 1), (47, .lreturn, 1)]
theorem dt_Md_unit_ok : ∀ e ∈ dt_Md_unit, decode prog_9_method_42_code e.1 = .ok e.2 := by decide +kernel
theorem dc_Md_unit (k : Nat) {pc : Nat} {i : Instr} {n : Nat} (h : dt_Md_unit[k]? = some (pc, i, n)) : decode prog_9_method_42_code pc = .ok (i, n) := rn_dc dt_Md_unit_ok k h
def dt_Md_inside : List (Nat × Instr × Nat) := [(0, .aload_n 0, 1), (1, .aload_n 0, 1), (2, .iload_n 1, 1), (3, .iload_n 2, 1), (4, .iload_n 3, 1), (5, .invokevirtual 218, 3), (8, .putfield 77, 3), (11, .aload_n 0, 1), (12, .getfield 77, 3), (15, .ifCond .le (7), 3), (18, .lconst 0, 1), (19, .goto (10), 3), (22, .aload_n 0, 1), (23, .iload_n 1, 1), (24, .iload_n 2, 1), (25, .iload_n 3, 1), (26, .invokevirtual 185, 3), (29, .lreturn, 1)]
theorem dt_Md_inside_ok : ∀ e ∈ dt_Md_inside, decode prog_9_method_43_code e.1 = .ok e.2 := by decide +kernel
theorem dc_Md_inside (k : Nat) {pc : Nat} {i : Instr} {n : Nat} (h : dt_Md_inside[k]? = some (pc, i, n)) : decode prog_9_method_43_code pc = .ok (i, n) := rn_dc dt_Md_inside_ok k h
def dt_Md_cheapest : List (Nat × Instr × Nat) := [(0, .aload_n 0, 1), (1, .aload_n 0, 1), (2, .iload_n 1, 1), (3, .iload_n 2, 1), (4, .iload_n 3, 1), (5, .invokevirtual 218, 3), (8, .putfield 77, 3), (11, .aload_n 0, 1), (12, .getfield 77, 3), (15, .ifCond .le (7), 3), (18, .iconst 0, 1), (19, .goto (10), 3), (22, .aload_n 0, 1), (23, .iload_n 1, 1), (24, .iload_n 2, 1), (25, .iload_n 3, 1), (26, .invokevirtual 189, 3), (29, .ireturn, 1)]
theorem dt_Md_cheapest_ok : ∀ e ∈ dt_Md_cheapest, decode prog_9_method_44_code e.1 = .ok e.2 := by decide +kernel
theorem dc_Md_cheapest (k : Nat) {pc : Nat} {i : Instr} {n : Nat} (h : dt_Md_cheapest[k]? = some (pc, i, n)) : decode prog_9_method_44_code pc = .ok (i, n) := rn_dc dt_Md_cheapest_ok k h
def dt_Md_build : List (Nat × Instr × Nat) := [(0, .aload_n 0, 1), (1, .aload_n 0, 1), (2, .iload_n 1, 1), (3, .iload_n 2, 1), (4, .iload_n 3, 1), (5, .invokevirtual 218, 3), (8, .putfield 77, 3), (11, .aload_n 0, 1), (12, .aload_n 0, 1), (13, .getfield 77, 3), (16, .ifCond .ne (17), 3), (19, .aload_n 0, 1), (20, .iload_n 1, 1), (21, .iload_n 2, 1), (22, .iload_n 3, 1), (23, .invokevirtual 189, 3), (26, .ifCond .ge (7), 3), (29, .iconst 3, 1), (30, .goto (7), 3), (33, .aload_n 0, 1), (34, .getfield 77, 3), (37, .putfield 77, 3), (40, .aload_n 0, 1), (41, .getfield 77, 3), (44, .ifCond .le (5), 3), (47, .iconst 0, 1), (48, .ireturn, 1), (49, .aload_n 0, 1), (50, .iload_n 1, 1), (51, .iload_n 2, 1), (52, .iload_n 3, 1), (53, .invokevirtual 221, 3), (56, .aload_n 0, 1), (57, .getfield 175, 3), (60, .ireturn, 1)]
theorem dt_Md_build_ok : ∀ e ∈ dt_Md_build, decode prog_9_method_45_code e.1 = .ok e.2 := by decide +kernel
theorem dc_Md_build (k : Nat) {pc : Nat} {i : Instr} {n : Nat} (h : dt_Md_build[k]? = some (pc, i, n)) : decode prog_9_method_45_code pc = .ok (i, n) := rn_dc dt_Md_build_ok k h
def dt_Md_node : List (Nat × Instr × Nat) := [(0, .aload_n 0, 1), (1, .iload_n 1, 1), (2, .ifCond .lt (17), 3), (5, .iload_n 1, 1), (6, .aload_n 0, 1), (7, .getfield 175, 3), (10, .if_icmp .ge (9), 3), (13, .iload_n 1, 1), (14, .bipush (99), 2), (16, .if_icmp .le (7), 3), (19, .iconst 1, 1), (20, .goto (4), 3), (23, .iconst 0, 1), (24, .putfield 77, 3), (27, .aload_n 0, 1), (28, .getfield 77, 3), (31, .ifCond .le (5), 3), (34, .iconst 0, 1), (35, .ireturn, 1), (36, .iload_n 2, 1), (37, .ifCond .ne (12), 3), (40, .aload_n 0, 1), (41, .getfield 65, 3), (44, .iload_n 1, 1), (45, .iaload, 1), (46, .goto (32), 3), (49, .iload_n 2, 1), (50, .iconst 1, 1), (51, .if_icmp .ne (12), 3), (54, .aload_n 0, 1), (55, .getfield 68, 3), (58, .iload_n 1, 1), (59, .iaload, 1), (60, .goto (18), 3), (63, .iload_n 2, 1), (64, .iconst 2, 1), (65, .if_icmp .ne (12), 3), (68, .aload_n 0, 1), (69, .getfield 71, 3), (72, .iload_n 1, 1), (73, .iaload, 1), (74, .goto (4), 3), (77, .iconst (-1), 1), (78, .ireturn, 1)]
theorem dt_Md_node_ok : ∀ e ∈ dt_Md_node, decode prog_9_method_46_code e.1 = .ok e.2 := by decide +kernel
theorem dc_Md_node (k : Nat) {pc : Nat} {i : Instr} {n : Nat} (h : dt_Md_node[k]? = some (pc, i, n)) : decode prog_9_method_46_code pc = .ok (i, n) := rn_dc dt_Md_node_ok k h
def dt_Lw_load : List (Nat × Instr × Nat) := [(0, .aload_n 1, 1), (1, .iconst 0, 1), (2, .aload_n 0, 1), (3, .invokevirtual 7, 3), (6, .i2l, 1), (7, .lastore, 1), (8, .goto (9), 3), (11, .astore_n 2, 1), (12, .iconst 1, 1), (13, .ireturn, 1), (14, .astore_n 2, 1), (15, .iconst 2, 1), (16, .ireturn, 1), (17, .iconst 0, 1), (18, .ireturn, 1)]
theorem dt_Lw_load_ok : ∀ e ∈ dt_Lw_load, decode method_3_code e.1 = .ok e.2 := by decide +kernel
theorem dc_Lw_load (k : Nat) {pc : Nat} {i : Instr} {n : Nat} (h : dt_Lw_load[k]? = some (pc, i, n)) : decode method_3_code pc = .ok (i, n) := rn_dc dt_Lw_load_ok k h
def dt_Lw_parse : List (Nat × Instr × Nat) := [(0, .aload_n 1, 1), (1, .iconst 0, 1), (2, .aload_n 0, 1), (3, .invokevirtual 17, 3), (6, .ifCond .eq (7), 3), (9, .lconst 1, 1), (10, .goto (4), 3), (13, .lconst 0, 1), (14, .lastore, 1), (15, .goto (9), 3), (18, .astore_n 2, 1), (19, .iconst 1, 1), (20, .ireturn, 1), (21, .astore_n 2, 1), (22, .iconst 2, 1), (23, .ireturn, 1), (24, .iconst 0, 1), (25, .ireturn, 1)]
theorem dt_Lw_parse_ok : ∀ e ∈ dt_Lw_parse, decode method_4_code e.1 = .ok e.2 := by decide +kernel
theorem dc_Lw_parse (k : Nat) {pc : Nat} {i : Instr} {n : Nat} (h : dt_Lw_parse[k]? = some (pc, i, n)) : decode method_4_code pc = .ok (i, n) := rn_dc dt_Lw_parse_ok k h
def dt_Lw_name : List (Nat × Instr × Nat) := [(0, .aload_n 2, 1), (1, .iconst 0, 1), (2, .aload_n 0, 1), (3, .iload_n 1, 1), (4, .invokevirtual 21, 3), (7, .i2l, 1), (8, .lastore, 1), (9, .goto (6), 3), (12, .astore_n 3, 1), (13, .iconst 1, 1), (14, .ireturn, 1), (15, .iconst 0, 1), (16, .ireturn, 1)]
theorem dt_Lw_name_ok : ∀ e ∈ dt_Lw_name, decode method_5_code e.1 = .ok e.2 := by decide +kernel
theorem dc_Lw_name (k : Nat) {pc : Nat} {i : Instr} {n : Nat} (h : dt_Lw_name[k]? = some (pc, i, n)) : decode method_5_code pc = .ok (i, n) := rn_dc dt_Lw_name_ok k h
def dt_Lw_weight : List (Nat × Instr × Nat) := [(0, .aload_n 2, 1), (1, .iconst 0, 1), (2, .aload_n 0, 1), (3, .iload_n 1, 1), (4, .invokevirtual 27, 3), (7, .lastore, 1), (8, .goto (6), 3), (11, .astore_n 3, 1), (12, .iconst 1, 1), (13, .ireturn, 1), (14, .iconst 0, 1), (15, .ireturn, 1)]
theorem dt_Lw_weight_ok : ∀ e ∈ dt_Lw_weight, decode method_6_code e.1 = .ok e.2 := by decide +kernel
theorem dc_Lw_weight (k : Nat) {pc : Nat} {i : Instr} {n : Nat} (h : dt_Lw_weight[k]? = some (pc, i, n)) : decode method_6_code pc = .ok (i, n) := rn_dc dt_Lw_weight_ok k h
def dt_Lw_empty : List (Nat × Instr × Nat) := [(0, .aload_n 2, 1), (1, .iconst 0, 1), (2, .aload_n 0, 1), (3, .iload_n 1, 1), (4, .invokevirtual 31, 3), (7, .lastore, 1), (8, .goto (6), 3), (11, .astore_n 3, 1), (12, .iconst 1, 1), (13, .ireturn, 1), (14, .iconst 0, 1), (15, .ireturn, 1)]
theorem dt_Lw_empty_ok : ∀ e ∈ dt_Lw_empty, decode method_7_code e.1 = .ok e.2 := by decide +kernel
theorem dc_Lw_empty (k : Nat) {pc : Nat} {i : Instr} {n : Nat} (h : dt_Lw_empty[k]? = some (pc, i, n)) : decode method_7_code pc = .ok (i, n) := rn_dc dt_Lw_empty_ok k h
def dt_Lw_unit : List (Nat × Instr × Nat) := [(0, .aload_n 3, 1), (1, .iconst 0, 1), (2, .aload_n 0, 1), (3, .iload_n 1, 1), (4, .iload_n 2, 1), (5, .invokevirtual 34, 3), (8, .lastore, 1), (9, .goto (7), 3), (12, .astore 4, 2), (14, .iconst 1, 1), (15, .ireturn, 1), (16, .iconst 0, 1), (17, .ireturn, 1)]
theorem dt_Lw_unit_ok : ∀ e ∈ dt_Lw_unit, decode method_8_code e.1 = .ok e.2 := by decide +kernel
theorem dc_Lw_unit (k : Nat) {pc : Nat} {i : Instr} {n : Nat} (h : dt_Lw_unit[k]? = some (pc, i, n)) : decode method_8_code pc = .ok (i, n) := rn_dc dt_Lw_unit_ok k h
def dt_Lw_inside : List (Nat × Instr × Nat) := [(0, .aload 4, 2), (2, .iconst 0, 1), (3, .aload_n 0, 1), (4, .iload_n 1, 1), (5, .iload_n 2, 1), (6, .iload_n 3, 1), (7, .invokevirtual 38, 3), (10, .lastore, 1), (11, .goto (11), 3), (14, .astore 5, 2), (16, .iconst 1, 1), (17, .ireturn, 1), (18, .astore 5, 2), (20, .iconst 2, 1), (21, .ireturn, 1), (22, .iconst 0, 1), (23, .ireturn, 1)]
theorem dt_Lw_inside_ok : ∀ e ∈ dt_Lw_inside, decode method_9_code e.1 = .ok e.2 := by decide +kernel
theorem dc_Lw_inside (k : Nat) {pc : Nat} {i : Instr} {n : Nat} (h : dt_Lw_inside[k]? = some (pc, i, n)) : decode method_9_code pc = .ok (i, n) := rn_dc dt_Lw_inside_ok k h
def dt_Lw_cheapest : List (Nat × Instr × Nat) := [(0, .aload 4, 2), (2, .iconst 0, 1), (3, .aload_n 0, 1), (4, .iload_n 1, 1), (5, .iload_n 2, 1), (6, .iload_n 3, 1), (7, .invokevirtual 42, 3), (10, .i2l, 1), (11, .lastore, 1), (12, .goto (11), 3), (15, .astore 5, 2), (17, .iconst 1, 1), (18, .ireturn, 1), (19, .astore 5, 2), (21, .iconst 2, 1), (22, .ireturn, 1), (23, .iconst 0, 1), (24, .ireturn, 1)]
theorem dt_Lw_cheapest_ok : ∀ e ∈ dt_Lw_cheapest, decode method_10_code e.1 = .ok e.2 := by decide +kernel
theorem dc_Lw_cheapest (k : Nat) {pc : Nat} {i : Instr} {n : Nat} (h : dt_Lw_cheapest[k]? = some (pc, i, n)) : decode method_10_code pc = .ok (i, n) := rn_dc dt_Lw_cheapest_ok k h
def dt_Lw_build : List (Nat × Instr × Nat) := [(0, .aload 4, 2), (2, .iconst 0, 1), (3, .aload_n 0, 1), (4, .iload_n 1, 1), (5, .iload_n 2, 1), (6, .iload_n 3, 1), (7, .invokevirtual 46, 3), (10, .i2l, 1), (11, .lastore, 1), (12, .goto (15), 3), (15, .astore 5, 2), (17, .iconst 1, 1), (18, .ireturn, 1), (19, .astore 5, 2), (21, .iconst 2, 1), (22, .ireturn, 1), (23, .astore 5, 2), (25, .iconst 3, 1), (26, .ireturn, 1), (27, .iconst 0, 1), (28, .ireturn, 1)]
theorem dt_Lw_build_ok : ∀ e ∈ dt_Lw_build, decode method_11_code e.1 = .ok e.2 := by decide +kernel
theorem dc_Lw_build (k : Nat) {pc : Nat} {i : Instr} {n : Nat} (h : dt_Lw_build[k]? = some (pc, i, n)) : decode method_11_code pc = .ok (i, n) := rn_dc dt_Lw_build_ok k h
def dt_Lw_node : List (Nat × Instr × Nat) := [(0, .aload_n 3, 1), (1, .iconst 0, 1), (2, .aload_n 0, 1), (3, .iload_n 1, 1), (4, .iload_n 2, 1), (5, .invokevirtual 49, 3), (8, .i2l, 1), (9, .lastore, 1), (10, .goto (7), 3), (13, .astore 4, 2), (15, .iconst 1, 1), (16, .ireturn, 1), (17, .iconst 0, 1), (18, .ireturn, 1)]
theorem dt_Lw_node_ok : ∀ e ∈ dt_Lw_node, decode method_12_code e.1 = .ok e.2 := by decide +kernel
theorem dc_Lw_node (k : Nat) {pc : Nat} {i : Instr} {n : Nat} (h : dt_Lw_node[k]? = some (pc, i, n)) : decode method_12_code pc = .ok (i, n) := rn_dc dt_Lw_node_ok k h
def dt_Ji_bitCount : List (Nat × Instr × Nat) := [(0, .iload_n 0, 1), (1, .iload_n 0, 1), (2, .iconst 1, 1), (3, .iushr, 1), (4, .ldc_w 265, 3), (7, .iand, 1), (8, .isub, 1), (9, .istore_n 0, 1), (10, .iload_n 0, 1), (11, .ldc_w 266, 3), (14, .iand, 1), (15, .iload_n 0, 1), (16, .iconst 2, 1), (17, .iushr, 1), (18, .ldc_w 266, 3), (21, .iand, 1), (22, .iadd, 1), (23, .istore_n 0, 1), (24, .iload_n 0, 1), (25, .iload_n 0, 1), (26, .iconst 4, 1), (27, .iushr, 1), (28, .iadd, 1), (29, .ldc_w 267, 3), (32, .iand, 1), (33, .istore_n 0, 1), (34, .iload_n 0, 1), (35, .iload_n 0, 1), (36, .bipush (8), 2), (38, .iushr, 1), (39, .iadd, 1), (40, .istore_n 0, 1), (41, .iload_n 0, 1), (42, .iload_n 0, 1), (43, .bipush (16), 2), (45, .iushr, 1), (46, .iadd, 1), (47, .istore_n 0, 1), (48, .iload_n 0, 1), (49, .bipush (63), 2), (51, .iand, 1), (52, .ireturn, 1)]
theorem dt_Ji_bitCount_ok : ∀ e ∈ dt_Ji_bitCount, decode prog_14_method_49_code e.1 = .ok e.2 := by decide +kernel
theorem dc_Ji_bitCount (k : Nat) {pc : Nat} {i : Instr} {n : Nat} (h : dt_Ji_bitCount[k]? = some (pc, i, n)) : decode prog_14_method_49_code pc = .ok (i, n) := rn_dc dt_Ji_bitCount_ok k h
def dt_Jm_min : List (Nat × Instr × Nat) := [(0, .iload_n 0, 1), (1, .iload_n 1, 1), (2, .if_icmp .gt (7), 3), (5, .iload_n 0, 1), (6, .goto (4), 3), (9, .iload_n 1, 1), (10, .ireturn, 1)]
theorem dt_Jm_min_ok : ∀ e ∈ dt_Jm_min, decode prog_15_method_69_code e.1 = .ok e.2 := by decide +kernel
theorem dc_Jm_min (k : Nat) {pc : Nat} {i : Instr} {n : Nat} (h : dt_Jm_min[k]? = some (pc, i, n)) : decode prog_15_method_69_code pc = .ok (i, n) := rn_dc dt_Jm_min_ok k h
end
section
/-! The core: worlds of mine (cells by number), the judgement Rn ('from here the machine comes to K'), a rule an instruction, a call by its contract. -/
abbrev rn_C : Type := (FieldType × Nat × (Nat → Int32)) ⊕ (Nat × (Nat → Int64)) ⊕ (FieldType × List (Option Nat)) ⊕ (Nat × List Value) ⊕ Unit
/-- ints (or chars), longs, references, an object, the script -/
abbrev rn_i (ty : FieldType) (n : Nat) (f : Nat → Int32) : rn_C := .inl (ty, n, f)
abbrev rn_l (n : Nat) (f : Nat → Int64) : rn_C := .inr (.inl (n, f))
abbrev rn_q (ty : FieldType) (l : List (Option Nat)) : rn_C := .inr (.inr (.inl (ty, l)))
abbrev rn_o (ci : Nat) (fs : List Value) : rn_C := .inr (.inr (.inr (.inl (ci, fs))))
abbrev rn_s : rn_C := .inr (.inr (.inr (.inr ())))
/-- a value of mine (a reference is the number of a cell; retAddr stands for some reference, nobody asks which) and the machine's -/
def rn_v (ad : List Nat) : Value → Value → Prop
  | .int x, u => u = .int x
  | .long x, u => u = .long x
  | .null, u => u = .null
  | .ref i, u => ∃ a, ad[i]? = some a ∧ u = .ref a
  | .retAddr _, u => ∃ a : Nat, u = .ref a
  | _, _ => False
def rn_vs (ad : List Nat) : List Value → List Value → Prop
  | [], us => us = []
  | v :: vs, us => ∃ u us', us = u :: us' ∧ rn_v ad v u ∧ rn_vs ad vs us'
def rn_r (ad : List Nat) : Option Nat → Option Nat → Prop
  | none, y => y = none
  | some i, y => ∃ a, ad[i]? = some a ∧ y = some a
def rn_c (ad : List Nat) (b : Nat) (tys : List (ClassId × FieldType)) (ws : va_W) (a : Nat) : rn_C → Prop
  | .inl (ty, n, f) => ∃ (k t0 : Nat) (cA : ClassId), ws[k]? = some (a, .inl (cA, n, .inl f)) ∧ tys[t0]? = some (cA, ty)
  | .inr (.inl (n, f)) => ∃ (k t0 : Nat) (cA : ClassId), ws[k]? = some (a, .inl (cA, n, .inr (.inl f))) ∧ tys[t0]? = some (cA, .long)
  | .inr (.inr (.inl (ty, l))) => ∃ (k t0 : Nat) (cA : ClassId) (g : Nat → Option Nat), ws[k]? = some (a, .inl (cA, l.length, .inr (.inr (.inr (.inr g))))) ∧ tys[t0]? = some (cA, ty) ∧ ty.isReference = true ∧ ∀ (j : Nat) (x : Option Nat), l[j]? = some x → rn_r ad x (g j)
  | .inr (.inr (.inr (.inl (ci, fs)))) => ∃ (k : Nat) (us : List Value), ws[k]? = some (a, .inr (ci, us)) ∧ rn_vs ad fs us
  | .inr (.inr (.inr (.inr _))) => a = b
def rn_w (ad : List Nat) (b : Nat) (tys : List (ClassId × FieldType)) (w : List rn_C) (ws : va_W) : Prop := ad.length = w.length ∧ (∀ (i j a : Nat), ad[i]? = some a → ad[j]? = some a → i = j) ∧ ∀ (i : Nat) (c : rn_C), w[i]? = some c → ∃ a, ad[i]? = some a ∧ rn_c ad b tys ws a c
theorem rn_gl {α : Type} {l m : List α} {i : Nat} {x : α} (h : l[i]? = some x) : (l ++ m)[i]? = some x := by
  rw [List.getElem?_append_left (List.getElem?_eq_some_iff.mp h).1]; exact h
theorem rn_v_grow {ad l : List Nat} {v u : Value} (h : rn_v ad v u) : rn_v (ad ++ l) v u := by
  cases v <;> first | exact h | (obtain ⟨a, h1, h2⟩ := h; exact ⟨a, rn_gl h1, h2⟩)
theorem rn_vs_grow {ad l : List Nat} : ∀ {vs us : List Value}, rn_vs ad vs us → rn_vs (ad ++ l) vs us
  | [], _, h => h
  | _ :: _, _, ⟨u, us', h1, h2, h3⟩ => ⟨u, us', h1, rn_v_grow h2, rn_vs_grow h3⟩
theorem rn_r_grow {ad l : List Nat} {x y : Option Nat} (h : rn_r ad x y) : rn_r (ad ++ l) x y := by
  cases x with
  | none => exact h
  | some i => obtain ⟨a, h1, h2⟩ := h; exact ⟨a, rn_gl h1, h2⟩
theorem rn_vs_app {ad : List Nat} : ∀ {xs ys us : List Value}, rn_vs ad (xs ++ ys) us → ∃ u1 u2, us = u1 ++ u2 ∧ rn_vs ad xs u1 ∧ rn_vs ad ys u2
  | [], _, us, h => ⟨[], us, rfl, rfl, h⟩
  | _ :: _, _, _, ⟨u, _, h1, h2, h3⟩ => by
    obtain ⟨u1, u2, e, g1, g2⟩ := rn_vs_app h3
    exact ⟨u :: u1, u2, by rw [h1, e]; rfl, ⟨u, u1, rfl, h2, g1⟩, g2⟩
theorem rn_vs_cat {ad : List Nat} : ∀ {xs ys u1 u2 : List Value}, rn_vs ad xs u1 → rn_vs ad ys u2 → rn_vs ad (xs ++ ys) (u1 ++ u2)
  | [], _, _, _, h, g => by
    have h : _ = _ := h
    subst h
    exact g
  | _ :: _, _, _, _, ⟨u, us', h1, h2, h3⟩, g => by
    subst h1
    exact ⟨u, us' ++ _, rfl, h2, rn_vs_cat h3 g⟩
theorem rn_vs_rev {ad : List Nat} : ∀ {xs us : List Value}, rn_vs ad xs us → rn_vs ad xs.reverse us.reverse
  | [], _, h => by
    have h : _ = _ := h
    subst h
    rfl
  | x :: xs, _, ⟨u, us', h1, h2, h3⟩ => by
    subst h1
    rw [List.reverse_cons, List.reverse_cons]
    exact rn_vs_cat (rn_vs_rev h3) ⟨u, [], rfl, h2, rfl⟩
theorem rn_vs_len {ad : List Nat} : ∀ {xs us : List Value}, rn_vs ad xs us → us.length = xs.length
  | [], _, h => by
    have h : _ = _ := h
    subst h
    rfl
  | x :: xs, _, ⟨u, us', h1, h2, h3⟩ => by
    subst h1
    rw [List.length_cons, List.length_cons, rn_vs_len h3]
theorem rn_v_cat {ad : List Nat} {v u : Value} (h : rn_v ad v u) : u.category = v.category := by
  cases v with
  | int x => have h : u = _ := h; subst h; rfl
  | long x => have h : u = _ := h; subst h; rfl
  | null => have h : u = _ := h; subst h; rfl
  | ref i => obtain ⟨a, -, rfl⟩ := h; rfl
  | retAddr i => obtain ⟨a, rfl⟩ := h; rfl
  | _ => exact h.elim
theorem rn_vs_cats {ad : List Nat} : ∀ {xs us : List Value}, rn_vs ad xs us → (us.map fun v => v.category).sum = (xs.map fun v => v.category).sum
  | [], _, h => by
    have h : _ = _ := h
    subst h
    rfl
  | x :: xs, _, ⟨u, us', h1, h2, h3⟩ => by
    subst h1
    rw [List.map_cons, List.map_cons, List.sum_cons, List.sum_cons, rn_v_cat h2, rn_vs_cats h3]
theorem rn_vs_at {ad : List Nat} : ∀ {xs us : List Value} {k : Nat} {v : Value}, rn_vs ad xs us → xs[k]? = some v → ∃ u, us[k]? = some u ∧ rn_v ad v u
  | [], _, k, v, h, hk => by simp at hk
  | x :: xs, _, 0, v, ⟨u, us', h1, h2, h3⟩, hk => by
    subst h1
    rw [List.getElem?_cons_zero] at hk
    cases hk
    exact ⟨u, by rw [List.getElem?_cons_zero], h2⟩
  | x :: xs, _, k + 1, v, ⟨u, us', h1, h2, h3⟩, hk => by
    subst h1
    rw [List.getElem?_cons_succ] at hk
    obtain ⟨y, g1, g2⟩ := rn_vs_at h3 hk
    exact ⟨y, by rw [List.getElem?_cons_succ]; exact g1, g2⟩
theorem rn_vs_set {ad : List Nat} : ∀ {xs us : List Value} {k : Nat} {v u : Value}, rn_vs ad xs us → rn_v ad v u → rn_vs ad (xs.set k v) (us.set k u)
  | [], _, k, v, u, h, hk => by
    have h : _ = _ := h
    subst h
    rfl
  | x :: xs, _, 0, v, u, ⟨u0, us', h1, h2, h3⟩, hk => by
    subst h1
    exact ⟨u, us', rfl, hk, h3⟩
  | x :: xs, _, k + 1, v, u, ⟨u0, us', h1, h2, h3⟩, hk => by
    subst h1
    exact ⟨u0, us'.set k u, rfl, h2, rn_vs_set h3 hk⟩
theorem rn_c_set {ad : List Nat} {b : Nat} {tys : List (ClassId × FieldType)} {ws : va_W} {a a0 k0 : Nat} {c : rn_C} {e0 e1 : va_E} (h : rn_c ad b tys ws a c) (h0 : ws[k0]? = some (a0, e0)) (hne : a ≠ a0) : rn_c ad b tys (ws.set k0 (a0, e1)) a c := by
  have key : ∀ (k : Nat) (e : va_E), ws[k]? = some (a, e) → (ws.set k0 (a0, e1))[k]? = some (a, e) := by
    intro k e hk
    have hne2 : k0 ≠ k := by
      intro q
      subst q
      rw [h0] at hk
      cases hk
      exact hne rfl
    rw [List.getElem?_set_ne hne2]
    exact hk
  match c, h with
  | .inl (ty, n, f), ⟨k, t0, cA, h1, h2⟩ => exact ⟨k, t0, cA, key _ _ h1, h2⟩
  | .inr (.inl (n, f)), ⟨k, t0, cA, h1, h2⟩ => exact ⟨k, t0, cA, key _ _ h1, h2⟩
  | .inr (.inr (.inl (ty, l))), ⟨k, t0, cA, g, h1, h2⟩ => exact ⟨k, t0, cA, g, key _ _ h1, h2⟩
  | .inr (.inr (.inr (.inl (ci, fs)))), ⟨k, us, h1, h2⟩ => exact ⟨k, us, key _ _ h1, h2⟩
  | .inr (.inr (.inr (.inr _))), h => exact h
theorem rn_w_set {ad : List Nat} {b : Nat} {tys : List (ClassId × FieldType)} {w : List rn_C} {ws : va_W} {i a0 k0 : Nat} {c1 : rn_C} {e0 e1 : va_E} (h : rn_w ad b tys w ws) (ha : ad[i]? = some a0) (h0 : ws[k0]? = some (a0, e0)) (hc : rn_c ad b tys (ws.set k0 (a0, e1)) a0 c1) : rn_w ad b tys (w.set i c1) (ws.set k0 (a0, e1)) := by
  refine ⟨by rw [List.length_set]; exact h.1, h.2.1, fun j c hj => ?_⟩
  by_cases hji : i = j
  · subst hji
    have hl : i < w.length := by rw [← h.1]; exact (List.getElem?_eq_some_iff.mp ha).1
    rw [List.getElem?_set_self hl] at hj
    cases hj
    exact ⟨a0, ha, hc⟩
  · rw [List.getElem?_set_ne hji] at hj
    obtain ⟨a, g1, g2⟩ := h.2.2 j c hj
    exact ⟨a, g1, rn_c_set g2 h0 (fun q => hji (h.2.1 i j a0 ha (by rw [← q]; exact g1)))⟩
theorem rn_c_grow {ad l : List Nat} {b : Nat} {tys t2 : List (ClassId × FieldType)} {ws w2 : va_W} {a : Nat} {c : rn_C} (h : rn_c ad b tys ws a c) : rn_c (ad ++ l) b (tys ++ t2) (ws ++ w2) a c := by
  match c, h with
  | .inl (ty, n, f), ⟨k, t0, cA, h1, h2⟩ => exact ⟨k, t0, cA, rn_gl h1, rn_gl h2⟩
  | .inr (.inl (n, f)), ⟨k, t0, cA, h1, h2⟩ => exact ⟨k, t0, cA, rn_gl h1, rn_gl h2⟩
  | .inr (.inr (.inl (ty, l))), ⟨k, t0, cA, g, h1, h2, h3, h4⟩ => exact ⟨k, t0, cA, g, rn_gl h1, rn_gl h2, h3, fun j x hj => rn_r_grow (h4 j x hj)⟩
  | .inr (.inr (.inr (.inl (ci, fs)))), ⟨k, us, h1, h2⟩ => exact ⟨k, us, rn_gl h1, rn_vs_grow h2⟩
  | .inr (.inr (.inr (.inr _))), h => exact h
theorem rn_w_push {ad : List Nat} {b q : Nat} {tys t2 : List (ClassId × FieldType)} {w : List rn_C} {ws : va_W} {c1 : rn_C} {e1 : va_E} (h : rn_w ad b tys w ws) (hq : ∀ (j a : Nat), ad[j]? = some a → a ≠ q) (hc : rn_c (ad ++ [q]) b (tys ++ t2) (ws ++ [(q, e1)]) q c1) : rn_w (ad ++ [q]) b (tys ++ t2) (w ++ [c1]) (ws ++ [(q, e1)]) := by
  have key : ∀ (i a : Nat), (ad ++ [q])[i]? = some a → (i < ad.length ∧ ad[i]? = some a) ∨ (i = ad.length ∧ a = q) := by
    intro i a hi
    by_cases hl : i < ad.length
    · rw [List.getElem?_append_left hl] at hi
      exact Or.inl ⟨hl, hi⟩
    · rw [List.getElem?_append_right (by omega)] at hi
      have hz : i - ad.length < 1 := (List.getElem?_eq_some_iff.mp hi).1
      have e0 : i - ad.length = 0 := by omega
      rw [e0] at hi
      cases hi
      exact Or.inr ⟨by omega, rfl⟩
  refine ⟨by rw [List.length_append, List.length_append, h.1]; rfl, fun i j a hi hj => ?_, fun i c hi => ?_⟩
  · rcases key i a hi with ⟨h1, g1⟩ | ⟨h1, g1⟩ <;> rcases key j a hj with ⟨h2, g2⟩ | ⟨h2, g2⟩
    · exact h.2.1 i j a g1 g2
    · exact absurd g2 (hq i a g1)
    · exact absurd g1 (hq j a g2)
    · rw [h1, h2]
  · by_cases hl : i < w.length
    · rw [List.getElem?_append_left hl] at hi
      obtain ⟨a, g1, g2⟩ := h.2.2 i c hi
      exact ⟨a, rn_gl g1, rn_c_grow g2⟩
    · rw [List.getElem?_append_right (by omega)] at hi
      have hz : i - w.length < 1 := (List.getElem?_eq_some_iff.mp hi).1
      have e0 : i - w.length = 0 := by omega
      rw [e0] at hi
      cases hi
      have e1 : i = ad.length := by rw [h.1]; omega
      exact ⟨q, by rw [e1, List.getElem?_append_right (Nat.le_refl _), Nat.sub_self]; rfl, hc⟩
/-! what a throw needs of the heap: two statics of Throwable, and the texts -/
def rn_Ls (C n d : String) (A : Nat → Prop) (U : State) (H : Heap) : Prop := ∃ (c : ClassId) (k : Class) (i : Nat) (f : Field) (a : Nat) (cell : Cell), U.vm.findClass C = some c ∧ U.fieldFound? C n d = some (c, k, i, f) ∧ f.isStatic = true ∧ k.statics = some a ∧ H[a]? = some cell ∧ cell.vm.isStatics = true ∧ cell.cls = c ∧ f.slot < cell.slots.size ∧ k.staticTypes[f.slot]? = some f.type ∧ ¬ A a
def rn_Th (A : Nat → Prop) (U : State) (H : Heap) : Prop := (∀ z ∈ rn_zs, va_Zq z.1 z.2.1 z.2.2 A U H ∧ rn_Ls z.1 z.2.1 z.2.2 A U H) ∧ (∀ z ∈ rn_strs, ∃ a, vk_R z.1 z.2.1 z.2.2 a U) ∧ ∀ z ∈ rn_ncs, va_Nc z.1 z.2 U
theorem rn_Th.alike {A : Nat → Prop} {s U : State} {H : Heap} (hvm : s.vm.Alike U.vm) {z : String × String × String} (h : va_Zq z.1 z.2.1 z.2.2 A s H ∧ rn_Ls z.1 z.2.1 z.2.2 A s H) : va_Zq z.1 z.2.1 z.2.2 A U H ∧ rn_Ls z.1 z.2.1 z.2.2 A U H := by
  obtain ⟨h0, c, k, i, f, a, cell, h1, h2, h3, h4, h5, h6, h7, h8, h9, h10⟩ := h
  obtain ⟨k', hi', he⟩ := State.fieldFound?_setVm hvm h2
  exact ⟨va_Zq.moved hvm h0, c, k', i, f, a, cell, by rw [hvm.findClass]; exact h1, hi', h3, by rw [he]; exact h4, h5, h6, h7, h8, by rw [he]; exact h9, h10⟩
theorem rn_Th.warm {A : Nat → Prop} {s U : State} {H : Heap} (hW : s.WarmedH U.vm) (h : rn_Th A s H) : rn_Th A U H := ⟨fun z hz => rn_Th.alike hW.alike (h.1 z hz), fun z hz => by
  obtain ⟨a, ha⟩ := h.2.1 z hz
  exact ⟨a, vk_R.warm hW ha⟩, fun z hz => va_Nc.moved hW.alike (h.2.2 z hz)⟩
theorem rn_Th.same {A : Nat → Prop} {s U : State} {H : Heap} (hv : U.vm = s.vm) (h : rn_Th A s H) : rn_Th A U H := ⟨fun z hz => rn_Th.alike (by rw [hv]; exact Vm.Alike.refl s.vm) (h.1 z hz), fun z hz => by
  obtain ⟨a, ha⟩ := h.2.1 z hz
  exact ⟨a, vk_R.same hv ha⟩, fun z hz => va_Nc.moved (by rw [hv]; exact Vm.Alike.refl s.vm) (h.2.2 z hz)⟩
theorem rn_Th.kept {A : Nat → Prop} {U : State} {H H1 : Heap} (h : rn_Th A U H) (hq : ∀ a : Nat, a < H.size → ¬ A a → H1[a]? = H[a]?) : rn_Th A U H1 := ⟨fun z hz => by
  obtain ⟨h0, c, k, i, f, a, cell, h1, h2, h3, h4, h5, h6, h7, h8, h9, h10⟩ := h.1 z hz
  exact ⟨va_Zq.kept h0 hq, c, k, i, f, a, cell, h1, h2, h3, h4, by rw [hq a (Array.getElem?_eq_some_iff.mp h5).1 h10]; exact h5, h6, h7, h8, h9, h10⟩, h.2⟩
theorem rn_Th.narrow {A B : Nat → Prop} {U : State} {H : Heap} (h : rn_Th A U H) (hAB : ∀ q, B q → A q) : rn_Th B U H := ⟨fun z hz => by
  obtain ⟨h0, c, k, i, f, a, cell, h1, h2, h3, h4, h5, h6, h7, h8, h9, h10⟩ := h.1 z hz
  exact ⟨va_Zq.narrow h0 hAB, c, k, i, f, a, cell, h1, h2, h3, h4, h5, h6, h7, h8, h9, fun z => h10 (hAB _ z)⟩, h.2⟩
/-- the launch, the classes' numbers, the script (its address, length, values) -/
abbrev rn_Z : Type := Launch × va_G × Nat × Nat × (Nat → Int32)
/-- a method: name, code, locals, return type; how many frames and words it may nest -/
abbrev rn_M : Type := MethodName × ByteArray × Nat × Option FieldType × Nat × Nat
def rn_ws (M : rn_M) : List Cond := .code M.1 M.2.1 M.2.2.1 M.2.2.2.1 :: rn_tb
def rn_R (M : rn_M) (mc ms : Nat) : Room := { frames := M.2.2.2.2.1, cells := mc, slots := ms, locals := M.2.2.2.2.2 }
def rn_X (Z : rn_Z) (M : rn_M) (p : Program) (s : State) (m : MethodId) (args : Array Value) (meth : Method) (c : Code) (A : Nat → Prop) : Prop :=
  p.tables.exec = Jvm.exec ∧ c.code = M.2.1 ∧ c.maxLocals = M.2.2.1 ∧ s.vm.findClass M.1.cls = some m.cls ∧ (∀ w ∈ rn_tb, w.before args s = true) ∧ meth.locks = false ∧ meth.sig.returnType = M.2.2.2.1 ∧ meth.name = M.1.name ∧ (∀ q : Nat, s.heap.size ≤ q → A q) ∧ va_X Z.2.2.1 Z.2.2.2.1 Z.2.2.2.2 s s.heap ∧ Z.2.2.1 < s.heap.size ∧ ¬ A Z.2.2.1 ∧ rn_Th A s s.heap ∧ s.methodNamed? M.1 = some m
def rn_Wd (Z : rn_Z) (A : Nat → Prop) (s : State) (H : Heap) (locs : List Loc) (ad : List Nat) (tys : List (ClassId × FieldType)) (w : List rn_C) (ws : va_W) : Prop :=
  rn_w ad Z.2.2.1 tys w ws ∧ va_P Z.2.1 rn_cl ws H ∧ va_K Z.2.1 rn_cl tys s ∧ va_D A ws ∧ va_S A s.heap H locs
def rn_L (ad : List Nat) (la : Array Slot) (n : Nat) (ls : List (Option Value)) : Prop := la.size = n ∧ lv_wf la ∧ ∀ (i : Nat) (v : Value), ls[i]? = some (some v) → ∃ u, rn_v ad v u ∧ la[i]? = some (.val u)
abbrev rn_K : Type := List Frame → Array Value → State → Nat → Nat → (Nat → Prop) → List Nat → State → Prop
def Rn (Z : rn_Z) (M : rn_M) (pc : Nat) (ls : List (Option Value)) (st : List Value) (w : List rn_C) (ca sa : Nat) (K : rn_K) : Prop :=
  ∀ (p : Program) (e : Env) (s : State) (m : MethodId) (args : Array Value) (below : List Frame) (meth : Method) (c : Code) (H : Heap) (locs : List Loc) (cells slots mc ms : Nat) (A : Nat → Prop) (ad0 ad : List Nat) (ws : va_W) (tys : List (ClassId × FieldType)) (la : Array Slot) (sta : List Value),
    rn_X Z M p s m args meth c A → rn_Wd Z A s H locs ad tys w ws → rn_L ad la M.2.2.1 ls → rn_vs ad st sta → (∃ l, ad = ad0 ++ l) → cells + ca ≤ mc → slots + sa ≤ ms →
    W p Z.1 e (rn_R M mc ms) s m args below meth c H locs cells slots (K below args s mc ms A ad0) (F0 m pc la sta)
theorem Rn.go {Z : rn_Z} {M : rn_M} {pc : Nat} {ls : List (Option Value)} {st : List Value} {w : List rn_C} {ca sa : Nat} {K : rn_K} (k : Rn Z M pc ls st w ca sa K) {p : Program} {e : Env} {s : State} {m : MethodId} {args : Array Value} {below : List Frame} {meth : Method} {c : Code} {H : Heap} {locs : List Loc} {cells slots mc ms : Nat} {A : Nat → Prop} {ad0 ad : List Nat} {ws : va_W} {tys : List (ClassId × FieldType)} {la : Array Slot} {sta : List Value}
    (hC : rn_X Z M p s m args meth c A) (hW : rn_Wd Z A s H locs ad tys w ws) (hL : rn_L ad la M.2.2.1 ls) (hS : rn_vs ad st sta) (hp : ∃ l, ad = ad0 ++ l) (h1 : cells + ca ≤ mc) (h2 : slots + sa ≤ ms) :
    W p Z.1 e (rn_R M mc ms) s m args below meth c H locs cells slots (K below args s mc ms A ad0) (F0 m pc la sta) := k _ _ _ _ _ _ _ _ _ _ _ _ _ _ _ _ _ _ _ _ _ hC hW hL hS hp h1 h2
def rn_oo (ad : List Nat) : Option Value → Option Value → Prop
  | none, v => v = none
  | some x, v => ∃ u, v = some u ∧ rn_v ad x u
/-- a method's end: it returned r, and the world is w -/
def rn_Q (Z : rn_Z) (A : Nat → Prop) (ad0 : List Nat) (r : Option Value) (w : List rn_C) : Array Value → State → Outcome → State → Prop := fun _ st o t =>
  (∃ (ad : List Nat) (ws : va_W) (tys : List (ClassId × FieldType)) (v : Option Value), (∃ l, ad = ad0 ++ l) ∧ o = .returned v ∧ rn_oo ad r v ∧ rn_w ad Z.2.2.1 tys w ws ∧ va_P Z.2.1 rn_cl ws t.heap ∧ va_K Z.2.1 rn_cl tys t ∧ va_D A ws) ∧ va_F A st t
def rn_Ret (Z : rn_Z) (r : Option Value) (w : List rn_C) : rn_K := fun below args s mc ms A ad0 => MQ below (rn_Q Z A ad0 r w) args s mc ms A
def rn_P (Z : rn_Z) (ws : va_W) (tys : List (ClassId × FieldType)) (av : List Value) (sz : Nat) : Array Value → State → Prop := va_Pc av (fun U => U.heap.size = sz ∧ va_P Z.2.1 rn_cl ws U.heap ∧ va_K Z.2.1 rn_cl tys U ∧ va_D (fun _ => True) ws ∧ va_X Z.2.2.1 Z.2.2.2.1 Z.2.2.2.2 U U.heap ∧ Z.2.2.1 < sz ∧ (∀ (k : Nat) (e : va_E), ws[k]? ≠ some (Z.2.2.1, e)) ∧ rn_Th (va_A ws sz) U U.heap)
/-- a method's contract: from the world w, with the arguments av, it returns r, and the world is w1; ca cells of sa slots may be made -/
def Call (Z : rn_Z) (M : rn_M) (av : List Value) (w : List rn_C) (ca sa : Nat) (r : Option Value) (w1 : List rn_C) : Prop :=
  ∀ (ad : List Nat) (ws : va_W) (tys : List (ClassId × FieldType)) (ava : List Value) (sz : Nat), rn_vs ad av ava → rn_w ad Z.2.2.1 tys w ws →
    Met Z.1 M.1 (rn_ws M) (rn_R M ca sa) (rn_P Z ws tys ava sz) (rn_Q Z (va_A ws sz) ad r w1) ca sa (va_A ws sz)
def rn_ent : List Value → List (Option Value)
  | [] => []
  | v :: vs => if v.category = 2 then some v :: none :: rn_ent vs else some v :: rn_ent vs
theorem rn_ent_len {ad : List Nat} : ∀ {av ava : List Value}, rn_vs ad av ava → (lg_sl ava).length = (rn_ent av).length
  | [], _, h => by
    have h : _ = _ := h
    subst h
    rfl
  | v :: vs, _, ⟨u, us, h1, h2, h3⟩ => by
    subst h1
    have hi := rn_ent_len h3
    have hc := rn_v_cat h2
    by_cases h : v.category = 2
    · have e1 : lg_sl (u :: us) = [.val u, .second] ++ lg_sl us := by simp [lg_sl, hc, h]
      have e2 : rn_ent (v :: vs) = some v :: none :: rn_ent vs := by simp [rn_ent, h]
      rw [e1, e2]
      simp [hi]
    · have e1 : lg_sl (u :: us) = [.val u] ++ lg_sl us := by simp [lg_sl, hc, h]
      have e2 : rn_ent (v :: vs) = some v :: rn_ent vs := by simp [rn_ent, h]
      rw [e1, e2]
      simp [hi]
theorem rn_ent_at {ad : List Nat} : ∀ {av ava : List Value} (n i : Nat) {v : Value}, rn_vs ad av ava → (rn_ent av)[i]? = some (some v) → ∃ u, rn_v ad v u ∧ (n + i, u) ∈ lv_args n ava
  | [], _, n, i, v, h, hi => by simp [rn_ent] at hi
  | x :: xs, _, n, i, v, ⟨u, us, h1, h2, h3⟩, hi => by
    subst h1
    have hc := rn_v_cat h2
    by_cases h : x.category = 2
    · have e2 : rn_ent (x :: xs) = some x :: none :: rn_ent xs := by simp [rn_ent, h]
      rw [e2] at hi
      have e1 : lv_args n (u :: us) = (n, u) :: lv_args (n + 2) us := by simp [lv_args, hc, h]
      rw [e1]
      match i, hi with
      | 0, hi =>
        rw [List.getElem?_cons_zero] at hi
        cases hi
        exact ⟨u, h2, List.mem_cons_self⟩
      | 1, hi => simp at hi
      | j + 2, hi =>
        rw [List.getElem?_cons_succ, List.getElem?_cons_succ] at hi
        obtain ⟨y, g1, g2⟩ := rn_ent_at (n + 2) j h3 hi
        refine ⟨y, g1, List.mem_cons_of_mem _ ?_⟩
        rw [show n + (j + 2) = n + 2 + j by omega]
        exact g2
    · have e2 : rn_ent (x :: xs) = some x :: rn_ent xs := by simp [rn_ent, h]
      rw [e2] at hi
      have e1 : lv_args n (u :: us) = (n, u) :: lv_args (n + 1) us := by simp [lv_args, hc, h]
      rw [e1]
      match i, hi with
      | 0, hi =>
        rw [List.getElem?_cons_zero] at hi
        cases hi
        exact ⟨u, h2, List.mem_cons_self⟩
      | j + 1, hi =>
        rw [List.getElem?_cons_succ] at hi
        obtain ⟨y, g1, g2⟩ := rn_ent_at (n + 1) j h3 hi
        refine ⟨y, g1, List.mem_cons_of_mem _ ?_⟩
        rw [show n + (j + 1) = n + 1 + j by omega]
        exact g2
theorem rn_ent_L {ad : List Nat} {av ava : List Value} {n k : Nat} (h : rn_vs ad av ava) (hn : (rn_ent av).length ≤ n) : rn_L ad ((lg_sl ava ++ List.replicate (n - (lg_sl ava).length) Slot.unset).toArray) n (rn_ent av ++ List.replicate k none) := by
  obtain ⟨h1, h2, h3⟩ := lv_entry ava (n := n) (by rw [rn_ent_len h]; exact hn)
  refine ⟨h1, h2, fun i v hi => ?_⟩
  by_cases hl : i < (rn_ent av).length
  · rw [List.getElem?_append_left hl] at hi
    obtain ⟨u, g1, g2⟩ := rn_ent_at 0 i h hi
    rw [Nat.zero_add] at g2
    exact ⟨u, g1, h3 _ g2⟩
  · rw [List.getElem?_append_right (by omega)] at hi
    have := List.eq_of_mem_replicate (List.mem_of_getElem? hi)
    cases this
theorem rn_L_grow {ad l : List Nat} {la : Array Slot} {n : Nat} {ls : List (Option Value)} (h : rn_L ad la n ls) : rn_L (ad ++ l) la n ls := ⟨h.1, h.2.1, fun i v hi => by
  obtain ⟨u, g1, g2⟩ := h.2.2 i v hi
  exact ⟨u, rn_v_grow g1, g2⟩⟩
/-- fewer locals are known -/
def rn_le : List (Option Value) → List (Option Value) → Prop
  | [], _ => True
  | none :: xs, ys => rn_le xs ys.tail
  | some v :: xs, ys => ys.head? = some (some v) ∧ rn_le xs ys.tail
theorem rn_le_at : ∀ {xs ys : List (Option Value)} {i : Nat} {v : Value}, rn_le xs ys → xs[i]? = some (some v) → ys[i]? = some (some v)
  | [], _, i, v, _, h => by simp at h
  | none :: xs, ys, 0, v, _, h => by simp at h
  | none :: xs, ys, i + 1, v, hl, h => by
    rw [List.getElem?_cons_succ] at h
    have := rn_le_at (xs := xs) (ys := ys.tail) hl h
    cases ys with
    | nil => simp at this
    | cons y ys => rw [List.getElem?_cons_succ]; exact this
  | some x :: xs, ys, 0, v, hl, h => by
    rw [List.getElem?_cons_zero] at h
    cases h
    have := hl.1
    cases ys with
    | nil => simp at this
    | cons y ys => rw [List.head?_cons] at this; rw [List.getElem?_cons_zero]; exact this
  | some x :: xs, ys, i + 1, v, hl, h => by
    rw [List.getElem?_cons_succ] at h
    have := rn_le_at (xs := xs) (ys := ys.tail) hl.2 h
    cases ys with
    | nil => simp at this
    | cons y ys => rw [List.getElem?_cons_succ]; exact this
theorem rn_le_0 {ys : List (Option Value)} : rn_le [] ys := trivial
theorem rn_le_s {v : Value} {xs ys : List (Option Value)} (h : rn_le xs ys) : rn_le (some v :: xs) (some v :: ys) := ⟨rfl, h⟩
theorem rn_le_x {y : Option Value} {xs ys : List (Option Value)} (h : rn_le xs ys) : rn_le (none :: xs) (y :: ys) := h
theorem rn_bind {α β : Type} {o : Option α} {k : α → Option β} {y : β} (h : Option.bind o k = some y) : ∃ x, o = some x ∧ k x = some y := by
  cases o with
  | none => cases h
  | some x => exact ⟨x, rfl, h⟩
theorem rn_ifp {α : Type} {c : Prop} [Decidable c] {a b r : α} (hc : c) (h : (if c then a else b) = r) : a = r := by rwa [if_pos hc] at h
theorem rn_ifn {α : Type} {c : Prop} [Decidable c] {a b r : α} (hc : ¬ c) (h : (if c then a else b) = r) : b = r := by rwa [if_neg hc] at h
theorem rn_inc_1 (x : Int32) : x + Int32.ofInt 1 = x + 1 := congrArg (fun z => x + z) (by decide)
theorem rn_inc_4 (x : Int32) : x + Int32.ofInt 4 = x + 4 := congrArg (fun z => x + z) (by decide)
theorem rn_inc_m1 (x : Int32) : x + Int32.ofInt (-1) = x + (-1) := congrArg (fun z => x + z) (by decide)
def rn_bl (x : Int32) : Option Int32 := if x = 0 then some x else if x = 1 then some x else none
theorem rn_bl_some {x y : Int32} (h : rn_bl x = some y) : y = x ∧ (x = 0 ∨ x = 1) := by
  unfold rn_bl at h
  split at h
  next h0 => exact ⟨(Option.some.inj h).symm, Or.inl h0⟩
  next =>
    split at h
    next h1 => exact ⟨(Option.some.inj h).symm, Or.inr h1⟩
    next => cases h
abbrev rn_fu : Nat := 1000000
def up2 {α : Type} (f : Nat → Nat → α) (j : Nat) (g : Nat → α) : Nat → Nat → α := fun k => if k = j then g else f k
/-! storing a local -/
def rn_two : Option Value → Bool
  | some (.long _) => true
  | some (.double _) => true
  | _ => false
theorem rn_two_of {v : Value} (h : v.category = 2) : rn_two (some v) = true := by
  cases v <;> first | rfl | (simp [Value.category] at h)
def rn_s1 : List (Option Value) → Nat → Value → List (Option Value)
  | [], _, _ => []
  | _ :: t, 0, v => some v :: t
  | a :: t, i + 1, v => (bif (i == 0) && rn_two a then none else a) :: rn_s1 t i v
theorem rn_s1_at : ∀ {ls : List (Option Value)} {i j : Nat} {v x : Value}, (rn_s1 ls i v)[j]? = some (some x) → (j = i ∧ x = v) ∨ (j ≠ i ∧ ls[j]? = some (some x) ∧ ¬ (j + 1 = i ∧ x.category = 2))
  | [], i, j, v, x, h => by simp [rn_s1] at h
  | a :: t, 0, j, v, x, h => by
    rw [rn_s1] at h
    cases j with
    | zero =>
      rw [List.getElem?_cons_zero] at h
      cases h
      exact Or.inl ⟨rfl, rfl⟩
    | succ j =>
      rw [List.getElem?_cons_succ] at h
      exact Or.inr ⟨by omega, by rw [List.getElem?_cons_succ]; exact h, by omega⟩
  | a :: t, i + 1, j, v, x, h => by
    rw [rn_s1] at h
    cases j with
    | zero =>
      rw [List.getElem?_cons_zero] at h
      cases hb : ((i == 0) && rn_two a) with
      | true => rw [hb] at h; cases h
      | false =>
        rw [hb] at h
        have h : some a = some (some x) := h
        have ha : a = some x := Option.some.inj h
        refine Or.inr ⟨by omega, by rw [List.getElem?_cons_zero]; exact h, fun q => ?_⟩
        rw [ha, rn_two_of q.2] at hb
        have e0 : i = 0 := by omega
        rw [e0] at hb
        cases hb
    | succ j =>
      rw [List.getElem?_cons_succ] at h
      rcases rn_s1_at h with ⟨h1, h2⟩ | ⟨h1, h2, h3⟩
      · exact Or.inl ⟨by omega, h2⟩
      · exact Or.inr ⟨by omega, by rw [List.getElem?_cons_succ]; exact h2, fun q => h3 ⟨by omega, q.2⟩⟩
def rn_s2 (ls : List (Option Value)) (i : Nat) (v : Value) : List (Option Value) := (rn_s1 ls i v).set (i + 1) none
theorem rn_s2_at {ls : List (Option Value)} {i j : Nat} {v x : Value} (h : (rn_s2 ls i v)[j]? = some (some x)) : (j = i ∧ x = v) ∨ (j ≠ i ∧ j ≠ i + 1 ∧ ls[j]? = some (some x) ∧ ¬ (j + 1 = i ∧ x.category = 2)) := by
  unfold rn_s2 at h
  by_cases hj : i + 1 = j
  · subst hj
    rw [List.getElem?_set] at h
    simp at h
  · rw [List.getElem?_set_ne hj] at h
    rcases rn_s1_at h with h1 | ⟨h1, h2, h3⟩
    · exact Or.inl h1
    · exact Or.inr ⟨h1, fun q => hj q.symm, h2, h3⟩
def rn_av (la : Array Slot) (n : Nat) : List (Nat × Value) := (List.range n).filterMap fun (j : Nat) => match la[j]? with
  | some (Slot.val u) => some (j, u)
  | _ => none
theorem rn_av_in {la : Array Slot} {n j : Nat} {u : Value} (hn : la.size = n) (h : la[j]? = some (.val u)) : (j, u) ∈ rn_av la n := by
  have hj : j < n := by rw [← hn]; exact (Array.getElem?_eq_some_iff.mp h).1
  exact List.mem_filterMap.mpr ⟨j, List.mem_range.mpr hj, by rw [h]⟩
theorem rn_av_has {la : Array Slot} {n : Nat} (hn : la.size = n) (hw : lv_wf la) : lv_has la n (rn_av la n) := by
  refine ⟨hn, hw, fun q hq => ?_⟩
  obtain ⟨j, -, hj⟩ := List.mem_filterMap.mp hq
  cases hl : la[j]? with
  | none => rw [hl] at hj; cases hj
  | some x =>
    rw [hl] at hj
    cases x with
    | val u => cases hj; exact hl
    | _ => cases hj
theorem rn_L1 {ad : List Nat} {la la' : Array Slot} {n i : Nat} {ls : List (Option Value)} {v u : Value} (h : rn_L ad la n ls) (hv : rn_v ad v u) (h' : lv_has la' n ((i, u) :: (rn_av la n).filter (fun q => !(q.1 == i) && !(q.1 + 1 == i && q.2.category == 2)))) : rn_L ad la' n (rn_s1 ls i v) := by
  refine ⟨h'.1, h'.2.1, fun j x hj => ?_⟩
  rcases rn_s1_at hj with ⟨h1, h2⟩ | ⟨h1, h2, h3⟩
  · subst h1; subst h2
    exact ⟨u, hv, h'.2.2 _ List.mem_cons_self⟩
  · obtain ⟨y, g1, g2⟩ := h.2.2 j x h2
    refine ⟨y, g1, h'.2.2 (j, y) (List.mem_cons_of_mem _ (List.mem_filter.mpr ⟨rn_av_in h.1 g2, ?_⟩))⟩
    have hc := rn_v_cat g1
    by_cases h4 : j + 1 = i
    · have h5 : ¬ x.category = 2 := fun q => h3 ⟨h4, q⟩
      simp [h1, hc, h5]
    · simp [h1, h4]
theorem rn_L2 {ad : List Nat} {la la' : Array Slot} {n i : Nat} {ls : List (Option Value)} {v u : Value} (h : rn_L ad la n ls) (hv : rn_v ad v u) (h' : lv_has la' n ((i, u) :: (rn_av la n).filter (fun q => !(q.1 == i) && (!(q.1 == i + 1) && !(q.1 + 1 == i && q.2.category == 2))))) : rn_L ad la' n (rn_s2 ls i v) := by
  refine ⟨h'.1, h'.2.1, fun j x hj => ?_⟩
  rcases rn_s2_at hj with ⟨h1, h2⟩ | ⟨h1, h1', h2, h3⟩
  · subst h1; subst h2
    exact ⟨u, hv, h'.2.2 _ List.mem_cons_self⟩
  · obtain ⟨y, g1, g2⟩ := h.2.2 j x h2
    refine ⟨y, g1, h'.2.2 (j, y) (List.mem_cons_of_mem _ (List.mem_filter.mpr ⟨rn_av_in h.1 g2, ?_⟩))⟩
    have hc := rn_v_cat g1
    by_cases h4 : j + 1 = i
    · have h5 : ¬ x.category = 2 := fun q => h3 ⟨h4, q⟩
      simp [h1, h1', hc, h5]
    · simp [h1, h1', h4]
section
variable {Z : rn_Z} {M : rn_M} {pc : Nat} {ls : List (Option Value)} {st : List Value} {w : List rn_C} {ca sa : Nat} {K : rn_K}
/-- the start -/
theorem rn_call {av : List Value} {r : Option Value} {w1 : List rn_C} (hp : plainName M.1.cls = true) (n : Nat) (hn : (rn_ent av).length ≤ M.2.2.1) (k : Rn Z M 0 (rn_ent av ++ List.replicate n none) [] w ca sa (rn_Ret Z r w1)) : Call Z M av w ca sa r w1 := by
  intro ad ws tys ava sz hav hw
  refine Met.ofW (cc := M.2.1) (maxL := M.2.2.1) (ret := M.2.2.2.1) hp rfl ?_
  intro p e s m args below meth c s₁ B hml hv
  obtain ⟨rfl, hsz, hP, hK, hD0, hX, hb, hbn, hTh⟩ := hv
  subst hsz
  have hts := atoms_spec (ws := rn_ws M) B.pre
  rw [lg_entry_eq]
  refine k.go ⟨B.exec, B.bytes, hml, findClass_of_methodNamed B.named, fun w h => hts w (List.mem_cons_of_mem _ h), B.notSynchronized, B.returns, (name_of_methodNamed B.named B.method).1, fun q h => Or.inr h, hX, hb, ?_, hTh, B.named⟩ ⟨hw, hP, hK, hD0.self, va_S.rf⟩ (rn_ent_L hav hn) rfl ⟨[], by simp⟩ (by omega) (by omega)
  intro q
  rcases q with ⟨k1, e1, h1⟩ | h1
  · exact hbn k1 e1 h1
  · omega
theorem rn_weak (ls' : List (Option Value)) (h : rn_le ls' ls) (k : Rn Z M pc ls' st w ca sa K) : Rn Z M pc ls st w ca sa K := by
  intro p e s m args below meth c H locs cells slots mc ms A ad0 ad ws tys la sta hC hW hL hS hp h1 h2
  exact k.go hC hW ⟨hL.1, hL.2.1, fun i v hi => hL.2.2 i v (rn_le_at h hi)⟩ hS hp h1 h2
theorem rn_room {ca' sa' : Nat} (h1 : ca' ≤ ca) (h2 : sa' ≤ sa) (k : Rn Z M pc ls st w ca' sa' K) : Rn Z M pc ls st w ca sa K := by
  intro p e s m args below meth c H locs cells slots mc ms A ad0 ad ws tys la sta hC hW hL hS hp g1 g2
  exact k.go hC hW hL hS hp (by omega) (by omega)
theorem rn_iconst {n : Int} {v : Int32} (hd : decode M.2.1 pc = .ok (.iconst n, 1)) (hv : Int32.ofInt n = v) (k : Rn Z M (pc + 1) ls (.int v :: st) w ca sa K) : Rn Z M pc ls st w ca sa K := by
  intro p e s m args below meth c H locs cells slots mc ms A ad0 ad ws tys la sta hC hW hL hS hp h1 h2
  exact lv_iconst hC.1 hC.2.1 hd hv (k.go hC hW hL ⟨_, _, rfl, rfl, hS⟩ hp h1 h2)
theorem rn_bipush {n : Int} {v : Int32} (hd : decode M.2.1 pc = .ok (.bipush n, 2)) (hv : (Int8.ofInt n).toInt32 = v) (k : Rn Z M (pc + 2) ls (.int v :: st) w ca sa K) : Rn Z M pc ls st w ca sa K := by
  intro p e s m args below meth c H locs cells slots mc ms A ad0 ad ws tys la sta hC hW hL hS hp h1 h2
  exact lv_bipush hC.1 hC.2.1 hd hv (k.go hC hW hL ⟨_, _, rfl, rfl, hS⟩ hp h1 h2)
theorem rn_sipush {n : Int} {v : Int32} (hd : decode M.2.1 pc = .ok (.sipush n, 3)) (hv : (Int16.ofInt n).toInt32 = v) (k : Rn Z M (pc + 3) ls (.int v :: st) w ca sa K) : Rn Z M pc ls st w ca sa K := by
  intro p e s m args below meth c H locs cells slots mc ms A ad0 ad ws tys la sta hC hW hL hS hp h1 h2
  exact lv_sipush hC.1 hC.2.1 hd hv (k.go hC hW hL ⟨_, _, rfl, rfl, hS⟩ hp h1 h2)
theorem rn_lconst {n : Fin 2} {v : Int64} (hd : decode M.2.1 pc = .ok (.lconst n, 1)) (hv : Int64.ofNat (n : Nat) = v) (k : Rn Z M (pc + 1) ls (.long v :: st) w ca sa K) : Rn Z M pc ls st w ca sa K := by
  intro p e s m args below meth c H locs cells slots mc ms A ad0 ad ws tys la sta hC hW hL hS hp h1 h2
  exact lv_lconst hC.1 hC.2.1 hd hv (k.go hC hW hL ⟨_, _, rfl, rfl, hS⟩ hp h1 h2)
theorem rn_ldc2 {idx : Nat} {v : Int64} (hd : decode M.2.1 pc = .ok (.ldc2_w idx, 3)) (hv : Cond.constantLong M.1.cls idx v ∈ rn_tb) (k : Rn Z M (pc + 3) ls (.long v :: st) w ca sa K) : Rn Z M pc ls st w ca sa K := by
  intro p e s m args below meth c H locs cells slots mc ms A ad0 ad ws tys la sta hC hW hL hS hp h1 h2
  exact lv_ldc2 hC.1 hC.2.1 hC.2.2.2.1 (hC.2.2.2.2.1 _ hv) hd (k.go hC hW hL ⟨_, _, rfl, rfl, hS⟩ hp h1 h2)
theorem rn_ldcw {idx : Nat} {v : Int32} (hd : decode M.2.1 pc = .ok (.ldc_w idx, 3)) (hv : Cond.constant M.1.cls idx v ∈ rn_tb) (k : Rn Z M (pc + 3) ls (.int v :: st) w ca sa K) : Rn Z M pc ls st w ca sa K := by
  intro p e s m args below meth c H locs cells slots mc ms A ad0 ad ws tys la sta hC hW hL hS hp h1 h2
  exact lv_ldcw hC.1 hC.2.1 hC.2.2.2.1 (hC.2.2.2.2.1 _ hv) hd (k.go hC hW hL ⟨_, _, rfl, rfl, hS⟩ hp h1 h2)
theorem rn_iload {i : Nat} {x : Int32} (hd : decode M.2.1 pc = .ok (.iload i, 2)) (hl : ls[i]? = some (some (.int x))) (k : Rn Z M (pc + 2) ls (.int x :: st) w ca sa K) : Rn Z M pc ls st w ca sa K := by
  intro p e s m args below meth c H locs cells slots mc ms A ad0 ad ws tys la sta hC hW hL hS hp h1 h2
  obtain ⟨u, rfl, hu⟩ := hL.2.2 _ _ hl
  exact lv_iload hC.1 hC.2.1 hd hu (k.go hC hW hL ⟨_, _, rfl, rfl, hS⟩ hp h1 h2)
theorem rn_iload_n {i : Fin 4} {x : Int32} (hd : decode M.2.1 pc = .ok (.iload_n i, 1)) (hl : ls[(i : Nat)]? = some (some (.int x))) (k : Rn Z M (pc + 1) ls (.int x :: st) w ca sa K) : Rn Z M pc ls st w ca sa K := by
  intro p e s m args below meth c H locs cells slots mc ms A ad0 ad ws tys la sta hC hW hL hS hp h1 h2
  obtain ⟨u, rfl, hu⟩ := hL.2.2 _ _ hl
  exact lv_iload_n hC.1 hC.2.1 hd rfl hu (k.go hC hW hL ⟨_, _, rfl, rfl, hS⟩ hp h1 h2)
theorem rn_lload {i : Nat} {x : Int64} (hd : decode M.2.1 pc = .ok (.lload i, 2)) (hl : ls[i]? = some (some (.long x))) (k : Rn Z M (pc + 2) ls (.long x :: st) w ca sa K) : Rn Z M pc ls st w ca sa K := by
  intro p e s m args below meth c H locs cells slots mc ms A ad0 ad ws tys la sta hC hW hL hS hp h1 h2
  obtain ⟨u, rfl, hu⟩ := hL.2.2 _ _ hl
  exact lv_lload hC.1 hC.2.1 hd hu (k.go hC hW hL ⟨_, _, rfl, rfl, hS⟩ hp h1 h2)
theorem rn_lload_n {i : Fin 4} {x : Int64} (hd : decode M.2.1 pc = .ok (.lload_n i, 1)) (hl : ls[(i : Nat)]? = some (some (.long x))) (k : Rn Z M (pc + 1) ls (.long x :: st) w ca sa K) : Rn Z M pc ls st w ca sa K := by
  intro p e s m args below meth c H locs cells slots mc ms A ad0 ad ws tys la sta hC hW hL hS hp h1 h2
  obtain ⟨u, rfl, hu⟩ := hL.2.2 _ _ hl
  exact lv_lload_n hC.1 hC.2.1 hd rfl hu (k.go hC hW hL ⟨_, _, rfl, rfl, hS⟩ hp h1 h2)
theorem rn_aload {i : Nat} {x : Nat} (hd : decode M.2.1 pc = .ok (.aload i, 2)) (hl : ls[i]? = some (some (.ref x))) (k : Rn Z M (pc + 2) ls (.ref x :: st) w ca sa K) : Rn Z M pc ls st w ca sa K := by
  intro p e s m args below meth c H locs cells slots mc ms A ad0 ad ws tys la sta hC hW hL hS hp h1 h2
  obtain ⟨u, ⟨a, ha, rfl⟩, hu⟩ := hL.2.2 _ _ hl
  exact lv_aload hC.1 hC.2.1 hd hu (k.go hC hW hL ⟨_, _, rfl, ⟨a, ha, rfl⟩, hS⟩ hp h1 h2)
theorem rn_aload_n {i : Fin 4} {x : Nat} (hd : decode M.2.1 pc = .ok (.aload_n i, 1)) (hl : ls[(i : Nat)]? = some (some (.ref x))) (k : Rn Z M (pc + 1) ls (.ref x :: st) w ca sa K) : Rn Z M pc ls st w ca sa K := by
  intro p e s m args below meth c H locs cells slots mc ms A ad0 ad ws tys la sta hC hW hL hS hp h1 h2
  obtain ⟨u, ⟨a, ha, rfl⟩, hu⟩ := hL.2.2 _ _ hl
  exact lv_aload_n hC.1 hC.2.1 hd rfl hu (k.go hC hW hL ⟨_, _, rfl, ⟨a, ha, rfl⟩, hS⟩ hp h1 h2)
theorem rn_astoreX {i : Nat} {j : Nat} {ls' : List (Option Value)} (hd : decode M.2.1 pc = .ok (.astore i, 2)) (hi : i < M.2.2.1) (hl : rn_s1 ls i (.retAddr j) = ls') (k : Rn Z M (pc + 2) ls' st w ca sa K) : Rn Z M pc ls (.retAddr j :: st) w ca sa K := by
  intro p e s m args below meth c H locs cells slots mc ms A ad0 ad ws tys la sta hC hW hL hS hp h1 h2
  obtain ⟨_, _, rfl, ⟨a, rfl⟩, hS⟩ := hS
  subst hl
  exact lv_astore hC.1 hC.2.1 hd (rn_av_has hL.1 hL.2.1) hi rfl (fun la1 h3 => k.go hC hW (rn_L1 hL ⟨a, rfl⟩ h3) hS hp h1 h2)
theorem rn_astoreX_n {i : Fin 4} {j : Nat} {ls' : List (Option Value)} (hd : decode M.2.1 pc = .ok (.astore_n i, 1)) (hi : (i : Nat) < M.2.2.1) (hl : rn_s1 ls (i : Nat) (.retAddr j) = ls') (k : Rn Z M (pc + 1) ls' st w ca sa K) : Rn Z M pc ls (.retAddr j :: st) w ca sa K := by
  intro p e s m args below meth c H locs cells slots mc ms A ad0 ad ws tys la sta hC hW hL hS hp h1 h2
  obtain ⟨_, _, rfl, ⟨a, rfl⟩, hS⟩ := hS
  subst hl
  exact lv_astore_n hC.1 hC.2.1 hd rfl (rn_av_has hL.1 hL.2.1) hi rfl (fun la1 h3 => k.go hC hW (rn_L1 hL ⟨a, rfl⟩ h3) hS hp h1 h2)
theorem rn_istore {i : Nat} {x : Int32} {ls' : List (Option Value)} (hd : decode M.2.1 pc = .ok (.istore i, 2)) (hi : i < M.2.2.1) (hl : rn_s1 ls i (.int x) = ls') (k : Rn Z M (pc + 2) ls' st w ca sa K) : Rn Z M pc ls (.int x :: st) w ca sa K := by
  intro p e s m args below meth c H locs cells slots mc ms A ad0 ad ws tys la sta hC hW hL hS hp h1 h2
  obtain ⟨_, _, rfl, rfl, hS⟩ := hS
  subst hl
  exact lv_istore hC.1 hC.2.1 hd (rn_av_has hL.1 hL.2.1) hi rfl (fun la1 h3 => k.go hC hW (rn_L1 hL rfl h3) hS hp h1 h2)
theorem rn_lstore {i : Nat} {x : Int64} {ls' : List (Option Value)} (hd : decode M.2.1 pc = .ok (.lstore i, 2)) (hi : i + 1 < M.2.2.1) (hl : rn_s2 ls i (.long x) = ls') (k : Rn Z M (pc + 2) ls' st w ca sa K) : Rn Z M pc ls (.long x :: st) w ca sa K := by
  intro p e s m args below meth c H locs cells slots mc ms A ad0 ad ws tys la sta hC hW hL hS hp h1 h2
  obtain ⟨_, _, rfl, rfl, hS⟩ := hS
  subst hl
  exact lv_lstore hC.1 hC.2.1 hd (rn_av_has hL.1 hL.2.1) hi rfl (fun la1 h3 => k.go hC hW (rn_L2 hL rfl h3) hS hp h1 h2)
theorem rn_astore {i : Nat} {x : Nat} {ls' : List (Option Value)} (hd : decode M.2.1 pc = .ok (.astore i, 2)) (hi : i < M.2.2.1) (hl : rn_s1 ls i (.ref x) = ls') (k : Rn Z M (pc + 2) ls' st w ca sa K) : Rn Z M pc ls (.ref x :: st) w ca sa K := by
  intro p e s m args below meth c H locs cells slots mc ms A ad0 ad ws tys la sta hC hW hL hS hp h1 h2
  obtain ⟨_, _, rfl, ⟨a, ha, rfl⟩, hS⟩ := hS
  subst hl
  exact lv_astore hC.1 hC.2.1 hd (rn_av_has hL.1 hL.2.1) hi rfl (fun la1 h3 => k.go hC hW (rn_L1 hL ⟨a, ha, rfl⟩ h3) hS hp h1 h2)
theorem rn_istore_n {i : Fin 4} {x : Int32} {ls' : List (Option Value)} (hd : decode M.2.1 pc = .ok (.istore_n i, 1)) (hi : (i : Nat) < M.2.2.1) (hl : rn_s1 ls (i : Nat) (.int x) = ls') (k : Rn Z M (pc + 1) ls' st w ca sa K) : Rn Z M pc ls (.int x :: st) w ca sa K := by
  intro p e s m args below meth c H locs cells slots mc ms A ad0 ad ws tys la sta hC hW hL hS hp h1 h2
  obtain ⟨_, _, rfl, rfl, hS⟩ := hS
  subst hl
  exact lv_istore_n hC.1 hC.2.1 hd rfl (rn_av_has hL.1 hL.2.1) hi rfl (fun la1 h3 => k.go hC hW (rn_L1 hL rfl h3) hS hp h1 h2)
theorem rn_lstore_n {i : Fin 4} {x : Int64} {ls' : List (Option Value)} (hd : decode M.2.1 pc = .ok (.lstore_n i, 1)) (hi : (i : Nat) + 1 < M.2.2.1) (hl : rn_s2 ls (i : Nat) (.long x) = ls') (k : Rn Z M (pc + 1) ls' st w ca sa K) : Rn Z M pc ls (.long x :: st) w ca sa K := by
  intro p e s m args below meth c H locs cells slots mc ms A ad0 ad ws tys la sta hC hW hL hS hp h1 h2
  obtain ⟨_, _, rfl, rfl, hS⟩ := hS
  subst hl
  exact lv_lstore_n hC.1 hC.2.1 hd rfl (rn_av_has hL.1 hL.2.1) hi rfl (fun la1 h3 => k.go hC hW (rn_L2 hL rfl h3) hS hp h1 h2)
theorem rn_astore_n {i : Fin 4} {x : Nat} {ls' : List (Option Value)} (hd : decode M.2.1 pc = .ok (.astore_n i, 1)) (hi : (i : Nat) < M.2.2.1) (hl : rn_s1 ls (i : Nat) (.ref x) = ls') (k : Rn Z M (pc + 1) ls' st w ca sa K) : Rn Z M pc ls (.ref x :: st) w ca sa K := by
  intro p e s m args below meth c H locs cells slots mc ms A ad0 ad ws tys la sta hC hW hL hS hp h1 h2
  obtain ⟨_, _, rfl, ⟨a, ha, rfl⟩, hS⟩ := hS
  subst hl
  exact lv_astore_n hC.1 hC.2.1 hd rfl (rn_av_has hL.1 hL.2.1) hi rfl (fun la1 h3 => k.go hC hW (rn_L1 hL ⟨a, ha, rfl⟩ h3) hS hp h1 h2)
theorem rn_iinc {i : Nat} {n : Int} {x v : Int32} {ls' : List (Option Value)} (hd : decode M.2.1 pc = .ok (.iinc i n, 3)) (hi : i < M.2.2.1) (hx : ls[i]? = some (some (.int x))) (hv : x + Int32.ofInt n = v) (hl : rn_s1 ls i (.int v) = ls') (k : Rn Z M (pc + 3) ls' st w ca sa K) : Rn Z M pc ls st w ca sa K := by
  intro p e s m args below meth c H locs cells slots mc ms A ad0 ad ws tys la sta hC hW hL hS hp h1 h2
  obtain ⟨u, rfl, hu⟩ := hL.2.2 _ _ hx
  subst hl
  obtain ⟨k0, hk0⟩ := List.getElem?_of_mem (rn_av_in hL.1 hu)
  exact lv_iinc hC.1 hC.2.1 hd (rn_av_has hL.1 hL.2.1) hk0 hv hi rfl (fun la1 h3 => k.go hC hW (rn_L1 hL rfl h3) hS hp h1 h2)
theorem rn_iadd {x : Int32} {y : Int32} (hd : decode M.2.1 pc = .ok (.iadd, 1)) (k : Rn Z M (pc + 1) ls (.int (x + y) :: st) w ca sa K) : Rn Z M pc ls (.int y :: .int x :: st) w ca sa K := by
  intro p e s m args below meth c H locs cells slots mc ms A ad0 ad ws tys la sta hC hW hL hS hp h1 h2
  obtain ⟨_, _, rfl, rfl, _, _, rfl, rfl, hS⟩ := hS
  exact lv_iadd hC.1 hC.2.1 hd (k.go hC hW hL ⟨_, _, rfl, rfl, hS⟩ hp h1 h2)
theorem rn_isub {x : Int32} {y : Int32} (hd : decode M.2.1 pc = .ok (.isub, 1)) (k : Rn Z M (pc + 1) ls (.int (x - y) :: st) w ca sa K) : Rn Z M pc ls (.int y :: .int x :: st) w ca sa K := by
  intro p e s m args below meth c H locs cells slots mc ms A ad0 ad ws tys la sta hC hW hL hS hp h1 h2
  obtain ⟨_, _, rfl, rfl, _, _, rfl, rfl, hS⟩ := hS
  exact lv_isub hC.1 hC.2.1 hd (k.go hC hW hL ⟨_, _, rfl, rfl, hS⟩ hp h1 h2)
theorem rn_imul {x : Int32} {y : Int32} (hd : decode M.2.1 pc = .ok (.imul, 1)) (k : Rn Z M (pc + 1) ls (.int (x * y) :: st) w ca sa K) : Rn Z M pc ls (.int y :: .int x :: st) w ca sa K := by
  intro p e s m args below meth c H locs cells slots mc ms A ad0 ad ws tys la sta hC hW hL hS hp h1 h2
  obtain ⟨_, _, rfl, rfl, _, _, rfl, rfl, hS⟩ := hS
  exact lv_imul hC.1 hC.2.1 hd (k.go hC hW hL ⟨_, _, rfl, rfl, hS⟩ hp h1 h2)
theorem rn_iand {x : Int32} {y : Int32} (hd : decode M.2.1 pc = .ok (.iand, 1)) (k : Rn Z M (pc + 1) ls (.int (x &&& y) :: st) w ca sa K) : Rn Z M pc ls (.int y :: .int x :: st) w ca sa K := by
  intro p e s m args below meth c H locs cells slots mc ms A ad0 ad ws tys la sta hC hW hL hS hp h1 h2
  obtain ⟨_, _, rfl, rfl, _, _, rfl, rfl, hS⟩ := hS
  exact lv_iand hC.1 hC.2.1 hd (k.go hC hW hL ⟨_, _, rfl, rfl, hS⟩ hp h1 h2)
theorem rn_ior {x : Int32} {y : Int32} (hd : decode M.2.1 pc = .ok (.ior, 1)) (k : Rn Z M (pc + 1) ls (.int (x ||| y) :: st) w ca sa K) : Rn Z M pc ls (.int y :: .int x :: st) w ca sa K := by
  intro p e s m args below meth c H locs cells slots mc ms A ad0 ad ws tys la sta hC hW hL hS hp h1 h2
  obtain ⟨_, _, rfl, rfl, _, _, rfl, rfl, hS⟩ := hS
  exact lv_ior hC.1 hC.2.1 hd (k.go hC hW hL ⟨_, _, rfl, rfl, hS⟩ hp h1 h2)
theorem rn_ishl {x : Int32} {y : Int32} (hd : decode M.2.1 pc = .ok (.ishl, 1)) (k : Rn Z M (pc + 1) ls (.int (x <<< (y &&& 31)) :: st) w ca sa K) : Rn Z M pc ls (.int y :: .int x :: st) w ca sa K := by
  intro p e s m args below meth c H locs cells slots mc ms A ad0 ad ws tys la sta hC hW hL hS hp h1 h2
  obtain ⟨_, _, rfl, rfl, _, _, rfl, rfl, hS⟩ := hS
  exact lv_ishl hC.1 hC.2.1 hd (k.go hC hW hL ⟨_, _, rfl, rfl, hS⟩ hp h1 h2)
theorem rn_ishr {x : Int32} {y : Int32} (hd : decode M.2.1 pc = .ok (.ishr, 1)) (k : Rn Z M (pc + 1) ls (.int (x >>> (y &&& 31)) :: st) w ca sa K) : Rn Z M pc ls (.int y :: .int x :: st) w ca sa K := by
  intro p e s m args below meth c H locs cells slots mc ms A ad0 ad ws tys la sta hC hW hL hS hp h1 h2
  obtain ⟨_, _, rfl, rfl, _, _, rfl, rfl, hS⟩ := hS
  exact lv_ishr hC.1 hC.2.1 hd (k.go hC hW hL ⟨_, _, rfl, rfl, hS⟩ hp h1 h2)
theorem rn_irem {x : Int32} {y : Int32} (hd : decode M.2.1 pc = .ok (.irem, 1)) (hne : ¬ y = 0) (k : Rn Z M (pc + 1) ls (.int (x - x / y * y) :: st) w ca sa K) : Rn Z M pc ls (.int y :: .int x :: st) w ca sa K := by
  intro p e s m args below meth c H locs cells slots mc ms A ad0 ad ws tys la sta hC hW hL hS hp h1 h2
  obtain ⟨_, _, rfl, rfl, _, _, rfl, rfl, hS⟩ := hS
  exact lv_irem hC.1 hC.2.1 hd hne (k.go hC hW hL ⟨_, _, rfl, rfl, hS⟩ hp h1 h2)
theorem rn_ladd {x : Int64} {y : Int64} (hd : decode M.2.1 pc = .ok (.ladd, 1)) (k : Rn Z M (pc + 1) ls (.long (x + y) :: st) w ca sa K) : Rn Z M pc ls (.long y :: .long x :: st) w ca sa K := by
  intro p e s m args below meth c H locs cells slots mc ms A ad0 ad ws tys la sta hC hW hL hS hp h1 h2
  obtain ⟨_, _, rfl, rfl, _, _, rfl, rfl, hS⟩ := hS
  exact lv_ladd hC.1 hC.2.1 hd (k.go hC hW hL ⟨_, _, rfl, rfl, hS⟩ hp h1 h2)
theorem rn_lsub {x : Int64} {y : Int64} (hd : decode M.2.1 pc = .ok (.lsub, 1)) (k : Rn Z M (pc + 1) ls (.long (x - y) :: st) w ca sa K) : Rn Z M pc ls (.long y :: .long x :: st) w ca sa K := by
  intro p e s m args below meth c H locs cells slots mc ms A ad0 ad ws tys la sta hC hW hL hS hp h1 h2
  obtain ⟨_, _, rfl, rfl, _, _, rfl, rfl, hS⟩ := hS
  exact lv_lsub hC.1 hC.2.1 hd (k.go hC hW hL ⟨_, _, rfl, rfl, hS⟩ hp h1 h2)
theorem rn_lmul {x : Int64} {y : Int64} (hd : decode M.2.1 pc = .ok (.lmul, 1)) (k : Rn Z M (pc + 1) ls (.long (x * y) :: st) w ca sa K) : Rn Z M pc ls (.long y :: .long x :: st) w ca sa K := by
  intro p e s m args below meth c H locs cells slots mc ms A ad0 ad ws tys la sta hC hW hL hS hp h1 h2
  obtain ⟨_, _, rfl, rfl, _, _, rfl, rfl, hS⟩ := hS
  exact lv_lmul hC.1 hC.2.1 hd (k.go hC hW hL ⟨_, _, rfl, rfl, hS⟩ hp h1 h2)
theorem rn_land {x : Int64} {y : Int64} (hd : decode M.2.1 pc = .ok (.land, 1)) (k : Rn Z M (pc + 1) ls (.long (x &&& y) :: st) w ca sa K) : Rn Z M pc ls (.long y :: .long x :: st) w ca sa K := by
  intro p e s m args below meth c H locs cells slots mc ms A ad0 ad ws tys la sta hC hW hL hS hp h1 h2
  obtain ⟨_, _, rfl, rfl, _, _, rfl, rfl, hS⟩ := hS
  exact lv_land hC.1 hC.2.1 hd (k.go hC hW hL ⟨_, _, rfl, rfl, hS⟩ hp h1 h2)
theorem rn_lor {x : Int64} {y : Int64} (hd : decode M.2.1 pc = .ok (.lor, 1)) (k : Rn Z M (pc + 1) ls (.long (x ||| y) :: st) w ca sa K) : Rn Z M pc ls (.long y :: .long x :: st) w ca sa K := by
  intro p e s m args below meth c H locs cells slots mc ms A ad0 ad ws tys la sta hC hW hL hS hp h1 h2
  obtain ⟨_, _, rfl, rfl, _, _, rfl, rfl, hS⟩ := hS
  exact lv_lor hC.1 hC.2.1 hd (k.go hC hW hL ⟨_, _, rfl, rfl, hS⟩ hp h1 h2)
theorem rn_iushr {x : Int32} {y : Int32} (hd : decode M.2.1 pc = .ok (.iushr, 1)) (k : Rn Z M (pc + 1) ls (.int ((x.toUInt32 >>> (y.toUInt32 &&& Int32.toUInt32 31)).toInt32) :: st) w ca sa K) : Rn Z M pc ls (.int y :: .int x :: st) w ca sa K := by
  intro p e s m args below meth c H locs cells slots mc ms A ad0 ad ws tys la sta hC hW hL hS hp h1 h2
  obtain ⟨_, _, rfl, rfl, _, _, rfl, rfl, hS⟩ := hS
  exact lv_iushr hC.1 hC.2.1 hd rfl (k.go hC hW hL ⟨_, _, rfl, rfl, hS⟩ hp h1 h2)
theorem rn_lushr {x : Int64} {y : Int32} (hd : decode M.2.1 pc = .ok (.lushr, 1)) (k : Rn Z M (pc + 1) ls (.long ((x.toUInt64 >>> (y.toInt64.toUInt64 &&& Int64.toUInt64 63)).toInt64) :: st) w ca sa K) : Rn Z M pc ls (.int y :: .long x :: st) w ca sa K := by
  intro p e s m args below meth c H locs cells slots mc ms A ad0 ad ws tys la sta hC hW hL hS hp h1 h2
  obtain ⟨_, _, rfl, rfl, _, _, rfl, rfl, hS⟩ := hS
  exact lv_lushr hC.1 hC.2.1 hd rfl (k.go hC hW hL ⟨_, _, rfl, rfl, hS⟩ hp h1 h2)
theorem rn_lshl {x : Int64} {y : Int32} (hd : decode M.2.1 pc = .ok (.lshl, 1)) (k : Rn Z M (pc + 1) ls (.long (x <<< (y.toInt64 &&& 63)) :: st) w ca sa K) : Rn Z M pc ls (.int y :: .long x :: st) w ca sa K := by
  intro p e s m args below meth c H locs cells slots mc ms A ad0 ad ws tys la sta hC hW hL hS hp h1 h2
  obtain ⟨_, _, rfl, rfl, _, _, rfl, rfl, hS⟩ := hS
  exact lv_lshl hC.1 hC.2.1 hd rfl (k.go hC hW hL ⟨_, _, rfl, rfl, hS⟩ hp h1 h2)
theorem rn_lshr {x : Int64} {y : Int32} (hd : decode M.2.1 pc = .ok (.lshr, 1)) (k : Rn Z M (pc + 1) ls (.long (x >>> (y.toInt64 &&& 63)) :: st) w ca sa K) : Rn Z M pc ls (.int y :: .long x :: st) w ca sa K := by
  intro p e s m args below meth c H locs cells slots mc ms A ad0 ad ws tys la sta hC hW hL hS hp h1 h2
  obtain ⟨_, _, rfl, rfl, _, _, rfl, rfl, hS⟩ := hS
  exact lv_lshr hC.1 hC.2.1 hd rfl (k.go hC hW hL ⟨_, _, rfl, rfl, hS⟩ hp h1 h2)
theorem rn_lcmp {x y : Int64} (hd : decode M.2.1 pc = .ok (.lcmp, 1)) (k : Rn Z M (pc + 1) ls (.int (lg_cmp x y) :: st) w ca sa K) : Rn Z M pc ls (.long y :: .long x :: st) w ca sa K := by
  intro p e s m args below meth c H locs cells slots mc ms A ad0 ad ws tys la sta hC hW hL hS hp h1 h2
  obtain ⟨_, _, rfl, rfl, _, _, rfl, rfl, hS⟩ := hS
  exact W.lcmp hC.1 hC.2.1 hd (k.go hC hW hL ⟨_, _, rfl, rfl, hS⟩ hp h1 h2)
theorem rn_i2l {x : Int32} (hd : decode M.2.1 pc = .ok (.i2l, 1)) (k : Rn Z M (pc + 1) ls (.long (x.toInt64) :: st) w ca sa K) : Rn Z M pc ls (.int x :: st) w ca sa K := by
  intro p e s m args below meth c H locs cells slots mc ms A ad0 ad ws tys la sta hC hW hL hS hp h1 h2
  obtain ⟨_, _, rfl, rfl, hS⟩ := hS
  exact lv_i2l hC.1 hC.2.1 hd rfl (k.go hC hW hL ⟨_, _, rfl, rfl, hS⟩ hp h1 h2)
theorem rn_l2i {x : Int64} (hd : decode M.2.1 pc = .ok (.l2i, 1)) (k : Rn Z M (pc + 1) ls (.int (x.toInt32) :: st) w ca sa K) : Rn Z M pc ls (.long x :: st) w ca sa K := by
  intro p e s m args below meth c H locs cells slots mc ms A ad0 ad ws tys la sta hC hW hL hS hp h1 h2
  obtain ⟨_, _, rfl, rfl, hS⟩ := hS
  exact lv_l2i hC.1 hC.2.1 hd rfl (k.go hC hW hL ⟨_, _, rfl, rfl, hS⟩ hp h1 h2)
theorem rn_i2c {x : Int32} (hd : decode M.2.1 pc = .ok (.i2c, 1)) (k : Rn Z M (pc + 1) ls (.int ((x.toUInt32 % 65536).toInt32) :: st) w ca sa K) : Rn Z M pc ls (.int x :: st) w ca sa K := by
  intro p e s m args below meth c H locs cells slots mc ms A ad0 ad ws tys la sta hC hW hL hS hp h1 h2
  obtain ⟨_, _, rfl, rfl, hS⟩ := hS
  exact lv_i2c hC.1 hC.2.1 hd rfl (k.go hC hW hL ⟨_, _, rfl, rfl, hS⟩ hp h1 h2)
theorem rn_dup {v : Value} (hd : decode M.2.1 pc = .ok (.dup, 1)) (hv : v.category = 1) (k : Rn Z M (pc + 1) ls (v :: v :: st) w ca sa K) : Rn Z M pc ls (v :: st) w ca sa K := by
  intro p e s m args below meth c H locs cells slots mc ms A ad0 ad ws tys la sta hC hW hL hS hp h1 h2
  obtain ⟨u, us, rfl, hu, hS⟩ := hS
  exact lv_dup hC.1 hC.2.1 hd (by rw [rn_v_cat hu]; exact hv) (k.go hC hW hL ⟨_, _, rfl, hu, _, _, rfl, hu, hS⟩ hp h1 h2)
theorem rn_pop {v : Value} (hd : decode M.2.1 pc = .ok (.pop, 1)) (hv : v.category = 1) (k : Rn Z M (pc + 1) ls st w ca sa K) : Rn Z M pc ls (v :: st) w ca sa K := by
  intro p e s m args below meth c H locs cells slots mc ms A ad0 ad ws tys la sta hC hW hL hS hp h1 h2
  obtain ⟨u, us, rfl, hu, hS⟩ := hS
  exact lv_pop hC.1 hC.2.1 hd (by rw [rn_v_cat hu]; exact hv) (k.go hC hW hL hS hp h1 h2)
theorem rn_dup2 {v v2 : Value} (hd : decode M.2.1 pc = .ok (.dup2, 1)) (hv : v.category = 1) (hv2 : v2.category = 1) (k : Rn Z M (pc + 1) ls (v :: v2 :: v :: v2 :: st) w ca sa K) : Rn Z M pc ls (v :: v2 :: st) w ca sa K := by
  intro p e s m args below meth c H locs cells slots mc ms A ad0 ad ws tys la sta hC hW hL hS hp h1 h2
  obtain ⟨u, us, rfl, hu, u2, us2, rfl, hu2, hS⟩ := hS
  exact lv_dup2_11 hC.1 hC.2.1 hd (by rw [rn_v_cat hu]; exact hv) (by rw [rn_v_cat hu2]; exact hv2) (k.go hC hW hL ⟨_, _, rfl, hu, _, _, rfl, hu2, _, _, rfl, hu, _, _, rfl, hu2, hS⟩ hp h1 h2)
theorem rn_dup_x1 {v v2 : Value} (hd : decode M.2.1 pc = .ok (.dup_x1, 1)) (hv : v.category = 1) (hv2 : v2.category = 1) (k : Rn Z M (pc + 1) ls (v :: v2 :: v :: st) w ca sa K) : Rn Z M pc ls (v :: v2 :: st) w ca sa K := by
  intro p e s m args below meth c H locs cells slots mc ms A ad0 ad ws tys la sta hC hW hL hS hp h1 h2
  obtain ⟨u, us, rfl, hu, u2, us2, rfl, hu2, hS⟩ := hS
  exact lv_dup_x1 hC.1 hC.2.1 hd (by rw [rn_v_cat hu]; exact hv) (by rw [rn_v_cat hu2]; exact hv2) (k.go hC hW hL ⟨_, _, rfl, hu, _, _, rfl, hu2, _, _, rfl, hu, hS⟩ hp h1 h2)
theorem rn_if_eq_t {x : Int32} {off : Int} (tgt : Nat) (hd : decode M.2.1 pc = .ok (.ifCond .eq off, 3)) (ht : (pc : Int) + off = (tgt : Int)) (h : x = 0) (k : Rn Z M tgt ls st w ca sa K) : Rn Z M pc ls (.int x :: st) w ca sa K := by
  intro p e s m args below meth c H locs cells slots mc ms A ad0 ad ws tys la sta hC hW hL hS hp h1 h2
  obtain ⟨_, _, rfl, rfl, hS⟩ := hS
  exact lv_if_eq hC.1 hC.2.1 hd ht (fun _ => k.go hC hW hL hS hp h1 h2) (fun n => absurd h n)
theorem rn_if_eq_f {x : Int32} {off : Int} (tgt : Nat) (hd : decode M.2.1 pc = .ok (.ifCond .eq off, 3)) (ht : (pc : Int) + off = (tgt : Int)) (h : ¬ x = 0) (k : Rn Z M (pc + 3) ls st w ca sa K) : Rn Z M pc ls (.int x :: st) w ca sa K := by
  intro p e s m args below meth c H locs cells slots mc ms A ad0 ad ws tys la sta hC hW hL hS hp h1 h2
  obtain ⟨_, _, rfl, rfl, hS⟩ := hS
  exact lv_if_eq hC.1 hC.2.1 hd ht (fun n => absurd n h) (fun _ => k.go hC hW hL hS hp h1 h2)
theorem rn_icmp_eq_t {x y : Int32} {off : Int} (tgt : Nat) (hd : decode M.2.1 pc = .ok (.if_icmp .eq off, 3)) (ht : (pc : Int) + off = (tgt : Int)) (h : x = y) (k : Rn Z M tgt ls st w ca sa K) : Rn Z M pc ls (.int y :: .int x :: st) w ca sa K := by
  intro p e s m args below meth c H locs cells slots mc ms A ad0 ad ws tys la sta hC hW hL hS hp h1 h2
  obtain ⟨_, _, rfl, rfl, _, _, rfl, rfl, hS⟩ := hS
  exact lv_icmp_eq hC.1 hC.2.1 hd ht (fun _ => k.go hC hW hL hS hp h1 h2) (fun n => absurd h n)
theorem rn_icmp_eq_f {x y : Int32} {off : Int} (tgt : Nat) (hd : decode M.2.1 pc = .ok (.if_icmp .eq off, 3)) (ht : (pc : Int) + off = (tgt : Int)) (h : ¬ x = y) (k : Rn Z M (pc + 3) ls st w ca sa K) : Rn Z M pc ls (.int y :: .int x :: st) w ca sa K := by
  intro p e s m args below meth c H locs cells slots mc ms A ad0 ad ws tys la sta hC hW hL hS hp h1 h2
  obtain ⟨_, _, rfl, rfl, _, _, rfl, rfl, hS⟩ := hS
  exact lv_icmp_eq hC.1 hC.2.1 hd ht (fun n => absurd n h) (fun _ => k.go hC hW hL hS hp h1 h2)
theorem rn_if_ne_t {x : Int32} {off : Int} (tgt : Nat) (hd : decode M.2.1 pc = .ok (.ifCond .ne off, 3)) (ht : (pc : Int) + off = (tgt : Int)) (h : ¬ x = 0) (k : Rn Z M tgt ls st w ca sa K) : Rn Z M pc ls (.int x :: st) w ca sa K := by
  intro p e s m args below meth c H locs cells slots mc ms A ad0 ad ws tys la sta hC hW hL hS hp h1 h2
  obtain ⟨_, _, rfl, rfl, hS⟩ := hS
  exact lv_if_ne hC.1 hC.2.1 hd ht (fun _ => k.go hC hW hL hS hp h1 h2) (fun n => absurd n h)
theorem rn_if_ne_f {x : Int32} {off : Int} (tgt : Nat) (hd : decode M.2.1 pc = .ok (.ifCond .ne off, 3)) (ht : (pc : Int) + off = (tgt : Int)) (h : x = 0) (k : Rn Z M (pc + 3) ls st w ca sa K) : Rn Z M pc ls (.int x :: st) w ca sa K := by
  intro p e s m args below meth c H locs cells slots mc ms A ad0 ad ws tys la sta hC hW hL hS hp h1 h2
  obtain ⟨_, _, rfl, rfl, hS⟩ := hS
  exact lv_if_ne hC.1 hC.2.1 hd ht (fun n => absurd h n) (fun _ => k.go hC hW hL hS hp h1 h2)
theorem rn_icmp_ne_t {x y : Int32} {off : Int} (tgt : Nat) (hd : decode M.2.1 pc = .ok (.if_icmp .ne off, 3)) (ht : (pc : Int) + off = (tgt : Int)) (h : ¬ x = y) (k : Rn Z M tgt ls st w ca sa K) : Rn Z M pc ls (.int y :: .int x :: st) w ca sa K := by
  intro p e s m args below meth c H locs cells slots mc ms A ad0 ad ws tys la sta hC hW hL hS hp h1 h2
  obtain ⟨_, _, rfl, rfl, _, _, rfl, rfl, hS⟩ := hS
  exact lv_icmp_ne hC.1 hC.2.1 hd ht (fun _ => k.go hC hW hL hS hp h1 h2) (fun n => absurd n h)
theorem rn_icmp_ne_f {x y : Int32} {off : Int} (tgt : Nat) (hd : decode M.2.1 pc = .ok (.if_icmp .ne off, 3)) (ht : (pc : Int) + off = (tgt : Int)) (h : x = y) (k : Rn Z M (pc + 3) ls st w ca sa K) : Rn Z M pc ls (.int y :: .int x :: st) w ca sa K := by
  intro p e s m args below meth c H locs cells slots mc ms A ad0 ad ws tys la sta hC hW hL hS hp h1 h2
  obtain ⟨_, _, rfl, rfl, _, _, rfl, rfl, hS⟩ := hS
  exact lv_icmp_ne hC.1 hC.2.1 hd ht (fun n => absurd h n) (fun _ => k.go hC hW hL hS hp h1 h2)
theorem rn_if_lt_t {x : Int32} {off : Int} (tgt : Nat) (hd : decode M.2.1 pc = .ok (.ifCond .lt off, 3)) (ht : (pc : Int) + off = (tgt : Int)) (h : x < 0) (k : Rn Z M tgt ls st w ca sa K) : Rn Z M pc ls (.int x :: st) w ca sa K := by
  intro p e s m args below meth c H locs cells slots mc ms A ad0 ad ws tys la sta hC hW hL hS hp h1 h2
  obtain ⟨_, _, rfl, rfl, hS⟩ := hS
  exact lv_if_lt hC.1 hC.2.1 hd ht (fun _ => k.go hC hW hL hS hp h1 h2) (fun n => absurd h n)
theorem rn_if_lt_f {x : Int32} {off : Int} (tgt : Nat) (hd : decode M.2.1 pc = .ok (.ifCond .lt off, 3)) (ht : (pc : Int) + off = (tgt : Int)) (h : ¬ x < 0) (k : Rn Z M (pc + 3) ls st w ca sa K) : Rn Z M pc ls (.int x :: st) w ca sa K := by
  intro p e s m args below meth c H locs cells slots mc ms A ad0 ad ws tys la sta hC hW hL hS hp h1 h2
  obtain ⟨_, _, rfl, rfl, hS⟩ := hS
  exact lv_if_lt hC.1 hC.2.1 hd ht (fun n => absurd n h) (fun _ => k.go hC hW hL hS hp h1 h2)
theorem rn_icmp_lt_t {x y : Int32} {off : Int} (tgt : Nat) (hd : decode M.2.1 pc = .ok (.if_icmp .lt off, 3)) (ht : (pc : Int) + off = (tgt : Int)) (h : x < y) (k : Rn Z M tgt ls st w ca sa K) : Rn Z M pc ls (.int y :: .int x :: st) w ca sa K := by
  intro p e s m args below meth c H locs cells slots mc ms A ad0 ad ws tys la sta hC hW hL hS hp h1 h2
  obtain ⟨_, _, rfl, rfl, _, _, rfl, rfl, hS⟩ := hS
  exact lv_icmp_lt hC.1 hC.2.1 hd ht (fun _ => k.go hC hW hL hS hp h1 h2) (fun n => absurd h n)
theorem rn_icmp_lt_f {x y : Int32} {off : Int} (tgt : Nat) (hd : decode M.2.1 pc = .ok (.if_icmp .lt off, 3)) (ht : (pc : Int) + off = (tgt : Int)) (h : ¬ x < y) (k : Rn Z M (pc + 3) ls st w ca sa K) : Rn Z M pc ls (.int y :: .int x :: st) w ca sa K := by
  intro p e s m args below meth c H locs cells slots mc ms A ad0 ad ws tys la sta hC hW hL hS hp h1 h2
  obtain ⟨_, _, rfl, rfl, _, _, rfl, rfl, hS⟩ := hS
  exact lv_icmp_lt hC.1 hC.2.1 hd ht (fun n => absurd n h) (fun _ => k.go hC hW hL hS hp h1 h2)
theorem rn_if_ge_t {x : Int32} {off : Int} (tgt : Nat) (hd : decode M.2.1 pc = .ok (.ifCond .ge off, 3)) (ht : (pc : Int) + off = (tgt : Int)) (h : 0 ≤ x) (k : Rn Z M tgt ls st w ca sa K) : Rn Z M pc ls (.int x :: st) w ca sa K := by
  intro p e s m args below meth c H locs cells slots mc ms A ad0 ad ws tys la sta hC hW hL hS hp h1 h2
  obtain ⟨_, _, rfl, rfl, hS⟩ := hS
  exact lv_if_ge hC.1 hC.2.1 hd ht (fun _ => k.go hC hW hL hS hp h1 h2) (fun n => absurd h n)
theorem rn_if_ge_f {x : Int32} {off : Int} (tgt : Nat) (hd : decode M.2.1 pc = .ok (.ifCond .ge off, 3)) (ht : (pc : Int) + off = (tgt : Int)) (h : ¬ 0 ≤ x) (k : Rn Z M (pc + 3) ls st w ca sa K) : Rn Z M pc ls (.int x :: st) w ca sa K := by
  intro p e s m args below meth c H locs cells slots mc ms A ad0 ad ws tys la sta hC hW hL hS hp h1 h2
  obtain ⟨_, _, rfl, rfl, hS⟩ := hS
  exact lv_if_ge hC.1 hC.2.1 hd ht (fun n => absurd n h) (fun _ => k.go hC hW hL hS hp h1 h2)
theorem rn_icmp_ge_t {x y : Int32} {off : Int} (tgt : Nat) (hd : decode M.2.1 pc = .ok (.if_icmp .ge off, 3)) (ht : (pc : Int) + off = (tgt : Int)) (h : y ≤ x) (k : Rn Z M tgt ls st w ca sa K) : Rn Z M pc ls (.int y :: .int x :: st) w ca sa K := by
  intro p e s m args below meth c H locs cells slots mc ms A ad0 ad ws tys la sta hC hW hL hS hp h1 h2
  obtain ⟨_, _, rfl, rfl, _, _, rfl, rfl, hS⟩ := hS
  exact lv_icmp_ge hC.1 hC.2.1 hd ht (fun _ => k.go hC hW hL hS hp h1 h2) (fun n => absurd h n)
theorem rn_icmp_ge_f {x y : Int32} {off : Int} (tgt : Nat) (hd : decode M.2.1 pc = .ok (.if_icmp .ge off, 3)) (ht : (pc : Int) + off = (tgt : Int)) (h : ¬ y ≤ x) (k : Rn Z M (pc + 3) ls st w ca sa K) : Rn Z M pc ls (.int y :: .int x :: st) w ca sa K := by
  intro p e s m args below meth c H locs cells slots mc ms A ad0 ad ws tys la sta hC hW hL hS hp h1 h2
  obtain ⟨_, _, rfl, rfl, _, _, rfl, rfl, hS⟩ := hS
  exact lv_icmp_ge hC.1 hC.2.1 hd ht (fun n => absurd n h) (fun _ => k.go hC hW hL hS hp h1 h2)
theorem rn_if_gt_t {x : Int32} {off : Int} (tgt : Nat) (hd : decode M.2.1 pc = .ok (.ifCond .gt off, 3)) (ht : (pc : Int) + off = (tgt : Int)) (h : 0 < x) (k : Rn Z M tgt ls st w ca sa K) : Rn Z M pc ls (.int x :: st) w ca sa K := by
  intro p e s m args below meth c H locs cells slots mc ms A ad0 ad ws tys la sta hC hW hL hS hp h1 h2
  obtain ⟨_, _, rfl, rfl, hS⟩ := hS
  exact lv_if_gt hC.1 hC.2.1 hd ht (fun _ => k.go hC hW hL hS hp h1 h2) (fun n => absurd h n)
theorem rn_if_gt_f {x : Int32} {off : Int} (tgt : Nat) (hd : decode M.2.1 pc = .ok (.ifCond .gt off, 3)) (ht : (pc : Int) + off = (tgt : Int)) (h : ¬ 0 < x) (k : Rn Z M (pc + 3) ls st w ca sa K) : Rn Z M pc ls (.int x :: st) w ca sa K := by
  intro p e s m args below meth c H locs cells slots mc ms A ad0 ad ws tys la sta hC hW hL hS hp h1 h2
  obtain ⟨_, _, rfl, rfl, hS⟩ := hS
  exact lv_if_gt hC.1 hC.2.1 hd ht (fun n => absurd n h) (fun _ => k.go hC hW hL hS hp h1 h2)
theorem rn_icmp_gt_t {x y : Int32} {off : Int} (tgt : Nat) (hd : decode M.2.1 pc = .ok (.if_icmp .gt off, 3)) (ht : (pc : Int) + off = (tgt : Int)) (h : y < x) (k : Rn Z M tgt ls st w ca sa K) : Rn Z M pc ls (.int y :: .int x :: st) w ca sa K := by
  intro p e s m args below meth c H locs cells slots mc ms A ad0 ad ws tys la sta hC hW hL hS hp h1 h2
  obtain ⟨_, _, rfl, rfl, _, _, rfl, rfl, hS⟩ := hS
  exact lv_icmp_gt hC.1 hC.2.1 hd ht (fun _ => k.go hC hW hL hS hp h1 h2) (fun n => absurd h n)
theorem rn_icmp_gt_f {x y : Int32} {off : Int} (tgt : Nat) (hd : decode M.2.1 pc = .ok (.if_icmp .gt off, 3)) (ht : (pc : Int) + off = (tgt : Int)) (h : ¬ y < x) (k : Rn Z M (pc + 3) ls st w ca sa K) : Rn Z M pc ls (.int y :: .int x :: st) w ca sa K := by
  intro p e s m args below meth c H locs cells slots mc ms A ad0 ad ws tys la sta hC hW hL hS hp h1 h2
  obtain ⟨_, _, rfl, rfl, _, _, rfl, rfl, hS⟩ := hS
  exact lv_icmp_gt hC.1 hC.2.1 hd ht (fun n => absurd n h) (fun _ => k.go hC hW hL hS hp h1 h2)
theorem rn_if_le_t {x : Int32} {off : Int} (tgt : Nat) (hd : decode M.2.1 pc = .ok (.ifCond .le off, 3)) (ht : (pc : Int) + off = (tgt : Int)) (h : x ≤ 0) (k : Rn Z M tgt ls st w ca sa K) : Rn Z M pc ls (.int x :: st) w ca sa K := by
  intro p e s m args below meth c H locs cells slots mc ms A ad0 ad ws tys la sta hC hW hL hS hp h1 h2
  obtain ⟨_, _, rfl, rfl, hS⟩ := hS
  exact lv_if_le hC.1 hC.2.1 hd ht (fun _ => k.go hC hW hL hS hp h1 h2) (fun n => absurd h n)
theorem rn_if_le_f {x : Int32} {off : Int} (tgt : Nat) (hd : decode M.2.1 pc = .ok (.ifCond .le off, 3)) (ht : (pc : Int) + off = (tgt : Int)) (h : ¬ x ≤ 0) (k : Rn Z M (pc + 3) ls st w ca sa K) : Rn Z M pc ls (.int x :: st) w ca sa K := by
  intro p e s m args below meth c H locs cells slots mc ms A ad0 ad ws tys la sta hC hW hL hS hp h1 h2
  obtain ⟨_, _, rfl, rfl, hS⟩ := hS
  exact lv_if_le hC.1 hC.2.1 hd ht (fun n => absurd n h) (fun _ => k.go hC hW hL hS hp h1 h2)
theorem rn_icmp_le_t {x y : Int32} {off : Int} (tgt : Nat) (hd : decode M.2.1 pc = .ok (.if_icmp .le off, 3)) (ht : (pc : Int) + off = (tgt : Int)) (h : x ≤ y) (k : Rn Z M tgt ls st w ca sa K) : Rn Z M pc ls (.int y :: .int x :: st) w ca sa K := by
  intro p e s m args below meth c H locs cells slots mc ms A ad0 ad ws tys la sta hC hW hL hS hp h1 h2
  obtain ⟨_, _, rfl, rfl, _, _, rfl, rfl, hS⟩ := hS
  exact lv_icmp_le hC.1 hC.2.1 hd ht (fun _ => k.go hC hW hL hS hp h1 h2) (fun n => absurd h n)
theorem rn_icmp_le_f {x y : Int32} {off : Int} (tgt : Nat) (hd : decode M.2.1 pc = .ok (.if_icmp .le off, 3)) (ht : (pc : Int) + off = (tgt : Int)) (h : ¬ x ≤ y) (k : Rn Z M (pc + 3) ls st w ca sa K) : Rn Z M pc ls (.int y :: .int x :: st) w ca sa K := by
  intro p e s m args below meth c H locs cells slots mc ms A ad0 ad ws tys la sta hC hW hL hS hp h1 h2
  obtain ⟨_, _, rfl, rfl, _, _, rfl, rfl, hS⟩ := hS
  exact lv_icmp_le hC.1 hC.2.1 hd ht (fun n => absurd n h) (fun _ => k.go hC hW hL hS hp h1 h2)
theorem rn_goto {off : Int} (tgt : Nat) (hd : decode M.2.1 pc = .ok (.goto off, 3)) (ht : (pc : Int) + off = (tgt : Int)) (k : Rn Z M tgt ls st w ca sa K) : Rn Z M pc ls st w ca sa K := by
  intro p e s m args below meth c H locs cells slots mc ms A ad0 ad ws tys la sta hC hW hL hS hp h1 h2
  exact lv_goto hC.1 hC.2.1 hd ht (k.go hC hW hL hS hp h1 h2)
theorem rn_tabIn {dflt lo hi off : Int} {offs : Array Int} {len : Nat} {x : Int32} (tgt : Nat) (hd : decode M.2.1 pc = .ok (.tableswitch dflt lo hi offs, len)) (g1 : ¬ x.toInt < lo) (g2 : ¬ hi < x.toInt) (ho : offs[(x.toInt - lo).toNat]? = some off) (ht : (pc : Int) + off = (tgt : Int)) (k : Rn Z M tgt ls st w ca sa K) : Rn Z M pc ls (.int x :: st) w ca sa K := by
  intro p e s m args below meth c H locs cells slots mc ms A ad0 ad ws tys la sta hC hW hL hS hp h1 h2
  obtain ⟨_, _, rfl, rfl, hS⟩ := hS
  exact lv_tableIn hC.1 hC.2.1 hd g1 g2 ho ht (k.go hC hW hL hS hp h1 h2)
theorem rn_tabOut {dflt lo hi : Int} {offs : Array Int} {len : Nat} {x : Int32} (tgt : Nat) (hd : decode M.2.1 pc = .ok (.tableswitch dflt lo hi offs, len)) (g : x.toInt < lo ∨ hi < x.toInt) (ht : (pc : Int) + dflt = (tgt : Int)) (k : Rn Z M tgt ls st w ca sa K) : Rn Z M pc ls (.int x :: st) w ca sa K := by
  intro p e s m args below meth c H locs cells slots mc ms A ad0 ad ws tys la sta hC hW hL hS hp h1 h2
  obtain ⟨_, _, rfl, rfl, hS⟩ := hS
  exact lv_tableOut hC.1 hC.2.1 hd g ht (k.go hC hW hL hS hp h1 h2)
end
end
section
/-! The core, second part: fields, arrays, new cells, calls, ends. -/
def aG {α : Type} (f : Nat → α) (n : Nat) (i : Int32) : Option α := if i < 0 ∨ n ≤ i.toNatClampNeg then none else some (f i.toNatClampNeg)
def aS {α : Type} (f : Nat → α) (n : Nat) (i : Int32) (v : α) : Option (Nat → α) := if i < 0 ∨ n ≤ i.toNatClampNeg then none else some (fun j => if j = i.toNatClampNeg then v else f j)
/-- a place of an array of arrays -/
def aI (n : Nat) (i : Int32) : Option Nat := if i < 0 ∨ n ≤ i.toNatClampNeg then none else some i.toNatClampNeg
theorem aG_some {α : Type} {f : Nat → α} {n : Nat} {i : Int32} {x : α} (h : aG f n i = some x) : vp_in i n ∧ f i.toNatClampNeg = x := by
  unfold aG at h
  split at h
  next => cases h
  next hn => exact ⟨hn, Option.some.inj h⟩
theorem aS_some {α : Type} {f f1 : Nat → α} {n : Nat} {i : Int32} {v : α} (h : aS f n i v = some f1) : vp_in i n ∧ (fun j => if j = i.toNatClampNeg then v else f j) = f1 := by
  unfold aS at h
  split at h
  next => cases h
  next hn => exact ⟨hn, Option.some.inj h⟩
theorem aI_some {n : Nat} {i : Int32} {x : Nat} (h : aI n i = some x) : vp_in i n ∧ i.toNatClampNeg = x ∧ x < n := by
  unfold aI at h
  split at h
  next => cases h
  next hn => exact ⟨hn, Option.some.inj h, by rw [← Option.some.inj h]; exact Nat.not_le.mp fun q => hn (Or.inr q)⟩
/-- the least 16 bits, as a char array keeps them -/
def rn_ch (x : Int32) : Int32 := x.toUInt32.toUInt16.toUInt32.toInt32
def rn_fit : FieldType → Value → Bool
  | .int, .int _ => true
  | .long, .long _ => true
  | .boolean, .int x => (x == 0) || (x == 1)
  | .object _, .ref _ => true
  | .array _, .ref _ => true
  | _, _ => false
theorem rn_fit_ok {ad : List Nat} {ty : FieldType} {v u : Value} (h : rn_fit ty v = true) (hv : rn_v ad v u) : narrow ty u = u ∧ fits ty u = true := by
  cases v with
  | int x =>
    have hv : u = _ := hv
    subst hv
    cases ty <;> first | (simp [rn_fit] at h; done) | exact ⟨rfl, rfl⟩ | skip
    have h : ((x == 0) || (x == 1)) = true := h
    have h2 : x = 0 ∨ x = 1 := by simpa using h
    rcases h2 with rfl | rfl <;> exact ⟨rfl, rfl⟩
  | long x =>
    have hv : u = _ := hv
    subst hv
    cases ty <;> first | (simp [rn_fit] at h; done) | exact ⟨rfl, rfl⟩
  | ref i =>
    obtain ⟨a, -, rfl⟩ := hv
    cases ty <;> first | (simp [rn_fit] at h; done) | exact ⟨rfl, rfl⟩
  | null => cases ty <;> simp [rn_fit] at h
  | retAddr i => cases ty <;> simp [rn_fit] at h
  | _ => exact hv.elim
def rn_Cl (ci : Nat) (C : String) (T : u_T) (N : Nat) (ty : Nat → FieldType) : Prop := rn_cl[ci]? = some (C, T, N) ∧ (∀ x ∈ u_ws C T N, x ∈ rn_tb) ∧ (∀ k, k < N → parseFieldDescriptor (T k).2.2.1 = some (ty k)) ∧ ∀ a, a < N → ∀ b, b < N → a ≠ b → (T a).2.1 ≠ (T b).2.1
def rn_Lk (own : String) (idx : Nat) (f : String × String × String × Bool) : Prop := Cond.fieldLink own idx f.1 f.2.1 f.2.2.1 ∈ rn_tb ∨ ∃ host, Cond.fieldLinkNest own idx f.1 f.2.1 f.2.2.1 host ∈ rn_tb
def rn_Fd (own : String) (idx ci k : Nat) (fin : Bool) (ty0 : FieldType) : Prop := ∃ (C : String) (T : u_T) (N : Nat) (ty : Nat → FieldType), rn_Cl ci C T N ty ∧ k < N ∧ rn_Lk own idx (T k) ∧ (T k).2.2.2 = fin ∧ ty k = ty0
def rn_Ff (own : String) (idx ci k : Nat) (ty0 : FieldType) : Prop := ∃ (C : String) (T : u_T) (N : Nat) (ty : Nat → FieldType), rn_Cl ci C T N ty ∧ k < N ∧ Cond.fieldLink own idx (T k).1 (T k).2.1 (T k).2.2.1 ∈ rn_tb ∧ (T k).2.2.2 = true ∧ ty k = ty0 ∧ (T k).1 = own
section
variable {Z : rn_Z} {M : rn_M} {pc : Nat} {ls : List (Option Value)} {st : List Value} {w w2 : List rn_C} {ca sa : Nat} {K : rn_K}
theorem rn_getf {idx ci k o : Nat} {fin : Bool} {ty0 : FieldType} {fs : List Value} {v : Value} (hf : rn_Fd M.1.cls idx ci k fin ty0) (hd : decode M.2.1 pc = .ok (.getfield idx, 3)) (ho : w[o]? = some (rn_o ci fs)) (hv : fs[k]? = some v) (kk : Rn Z M (pc + 3) ls (v :: st) w ca sa K) : Rn Z M pc ls (.ref o :: st) w ca sa K := by
  intro p e s m args below meth c H locs cells slots mc ms A ad0 ad ws tys la sta hC hW hL hS hp h1 h2
  obtain ⟨C, T, N, ty, ⟨c1, c2, c3, c4⟩, hk, hlk, -⟩ := hf
  obtain ⟨_, _, rfl, ⟨a, ha, rfl⟩, hS⟩ := hS
  obtain ⟨a', ha', k0, us, h0, hus⟩ := hW.1.2.2 _ _ ho
  cases ha.symm.trans ha'
  obtain ⟨u, hu, hvu⟩ := rn_vs_at hus hv
  have hin : ∀ x ∈ u_ws C T N, x ∈ rn_tb := c2
  rcases hlk with hlk | ⟨host, hlk⟩
  · exact va_get hC.1 hC.2.1 hC.2.2.2.2.1 hin hC.2.2.2.1 hW.2.2.1 hW.2.1 k0 h0 c1 k hk (hC.2.2.2.2.1 _ hlk) (fun _ q => q) hu hd (kk.go hC hW hL ⟨_, _, rfl, hvu, hS⟩ hp h1 h2)
  · exact va_getN hC.1 hC.2.1 hC.2.2.2.2.1 hin hC.2.2.2.1 hW.2.2.1 hW.2.1 k0 h0 c1 k hk (hC.2.2.2.2.1 _ hlk) (fun _ q => q) hu hd (kk.go hC hW hL ⟨_, _, rfl, hvu, hS⟩ hp h1 h2)
theorem rn_putf {idx ci k o : Nat} {ty0 : FieldType} {fs : List Value} {v : Value} (hf : rn_Fd M.1.cls idx ci k false ty0) (hd : decode M.2.1 pc = .ok (.putfield idx, 3)) (ho : w[o]? = some (rn_o ci fs)) (hfit : rn_fit ty0 v = true) (hkl : k < fs.length) (hw2 : w.set o (rn_o ci (fs.set k v)) = w2) (kk : Rn Z M (pc + 3) ls st w2 ca sa K) : Rn Z M pc ls (v :: .ref o :: st) w ca sa K := by
  intro p e s m args below meth c H locs cells slots mc ms A ad0 ad ws tys la sta hC hW hL hS hp h1 h2
  obtain ⟨C, T, N, ty, ⟨c1, c2, c3, c4⟩, hk, hlk, hfin, hty⟩ := hf
  obtain ⟨u, _, rfl, hvu, _, _, rfl, ⟨a, ha, rfl⟩, hS⟩ := hS
  obtain ⟨a', ha', k0, us, h0, hus⟩ := hW.1.2.2 _ _ ho
  cases ha.symm.trans ha'
  subst hw2
  obtain ⟨f1, f2⟩ := rn_fit_ok hfit hvu
  have hlen : k < us.length := by rw [rn_vs_len hus]; exact hkl
  have hpd : parseFieldDescriptor (T k).2.2.1 = some ty0 := by rw [c3 k hk, hty]
  have fin9 : ∀ (H1 : Heap) (locs1 : List Loc), va_P Z.2.1 rn_cl (ws.set k0 (a, .inr (ci, us.set k u))) H1 → va_D A (ws.set k0 (a, .inr (ci, us.set k u))) → va_S A s.heap H1 locs1 → W p Z.1 e (rn_R M mc ms) s m args below meth c H1 locs1 cells slots (K below args s mc ms A ad0) (F0 m (pc + 3) la _) :=
    fun H1 locs1 q1 q2 q3 => kk.go hC ⟨rn_w_set hW.1 ha h0 ⟨k0, us.set k u, List.getElem?_set_self (List.getElem?_eq_some_iff.mp h0).1, rn_vs_set hus hvu⟩, q1, hW.2.2.1, q2, q3⟩ hL hS hp h1 h2
  rcases hlk with hlk | ⟨host, hlk⟩
  · exact va_put hC.1 hC.2.1 hC.2.2.2.2.1 c2 ty c3 c4 hC.2.2.2.1 hW.2.2.1 hW.2.1 hW.2.2.2.1 hW.2.2.2.2 k0 h0 c1 k hk (hC.2.2.2.2.1 _ hlk) (fun _ q => q) hfin hpd f1 f2 hlen hd fin9
  · exact va_putN hC.1 hC.2.1 hC.2.2.2.2.1 c2 ty c3 c4 hC.2.2.2.1 hW.2.2.1 hW.2.1 hW.2.2.2.1 hW.2.2.2.2 k0 h0 c1 k hk (hC.2.2.2.2.1 _ hlk) (fun _ q => q) hfin hpd f1 f2 hlen hd fin9
/-- a final field, in a constructor -/
theorem rn_putF {idx ci k o : Nat} {ty0 : FieldType} {fs : List Value} {v : Value} (hf : rn_Ff M.1.cls idx ci k ty0) (hin2 : M.1.name = "<init>") (hd : decode M.2.1 pc = .ok (.putfield idx, 3)) (ho : w[o]? = some (rn_o ci fs)) (hfit : rn_fit ty0 v = true) (hkl : k < fs.length) (hw2 : w.set o (rn_o ci (fs.set k v)) = w2) (kk : Rn Z M (pc + 3) ls st w2 ca sa K) : Rn Z M pc ls (v :: .ref o :: st) w ca sa K := by
  intro p e s m args below meth c H locs cells slots mc ms A ad0 ad ws tys la sta hC hW hL hS hp h1 h2
  obtain ⟨C, T, N, ty, ⟨c1, c2, c3, c4⟩, hk, hlk, hfin, hty, hdc⟩ := hf
  obtain ⟨u, _, rfl, hvu, _, _, rfl, ⟨a, ha, rfl⟩, hS⟩ := hS
  obtain ⟨a', ha', k0, us, h0, hus⟩ := hW.1.2.2 _ _ ho
  cases ha.symm.trans ha'
  subst hw2
  obtain ⟨f1, f2⟩ := rn_fit_ok hfit hvu
  have hlen : k < us.length := by rw [rn_vs_len hus]; exact hkl
  have hpd : parseFieldDescriptor (T k).2.2.1 = some ty0 := by rw [c3 k hk, hty]
  exact va_putF hC.1 hC.2.1 hC.2.2.2.2.1 c2 ty c3 c4 hC.2.2.2.1 hW.2.2.1 hW.2.1 hW.2.2.2.1 hW.2.2.2.2 k0 h0 c1 k hk (hC.2.2.2.2.1 _ hlk) (fun _ q => q) hfin (hC.2.2.2.2.2.2.2.1.trans hin2) hdc hpd f1 f2 hlen hd
    (fun H1 locs1 q1 q2 q3 => kk.go hC ⟨rn_w_set hW.1 ha h0 ⟨k0, us.set k u, List.getElem?_set_self (List.getElem?_eq_some_iff.mp h0).1, rn_vs_set hus hvu⟩, q1, hW.2.2.1, q2, q3⟩ hL hS hp h1 h2)
theorem rn_iaload {o n : Nat} {f : Nat → Int32} {i : Int32} {x : Int32} (hd : decode M.2.1 pc = .ok (.iaload, 1)) (ho : w[o]? = some (rn_i .int n f)) (h : aG f n i = some x) (kk : Rn Z M (pc + 1) ls (.int x :: st) w ca sa K) : Rn Z M pc ls (.int i :: .ref o :: st) w ca sa K := by
  intro p e s m args below meth c H locs cells slots mc ms A ad0 ad ws tys la sta hC hW hL hS hp h1 h2
  obtain ⟨_, _, rfl, rfl, _, _, rfl, ⟨a, ha, rfl⟩, hS⟩ := hS
  obtain ⟨a', ha', k0, t0, cA, h0, ht⟩ := hW.1.2.2 _ _ ho
  cases ha.symm.trans ha'
  obtain ⟨hin, rfl⟩ := aG_some h
  exact va_iald hC.1 hC.2.1 hW.2.2.1 hW.2.1 k0 t0 h0 ht hin hd (kk.go hC hW hL ⟨_, _, rfl, rfl, hS⟩ hp h1 h2)
theorem rn_caload {o n : Nat} {f : Nat → Int32} {i : Int32} {x : Int32} (hd : decode M.2.1 pc = .ok (.caload, 1)) (ho : w[o]? = some (rn_i .char n f)) (h : aG f n i = some x) (kk : Rn Z M (pc + 1) ls (.int x :: st) w ca sa K) : Rn Z M pc ls (.int i :: .ref o :: st) w ca sa K := by
  intro p e s m args below meth c H locs cells slots mc ms A ad0 ad ws tys la sta hC hW hL hS hp h1 h2
  obtain ⟨_, _, rfl, rfl, _, _, rfl, ⟨a, ha, rfl⟩, hS⟩ := hS
  obtain ⟨a', ha', k0, t0, cA, h0, ht⟩ := hW.1.2.2 _ _ ho
  cases ha.symm.trans ha'
  obtain ⟨hin, rfl⟩ := aG_some h
  exact va_cald hC.1 hC.2.1 hW.2.2.1 hW.2.1 k0 t0 h0 ht hin hd (kk.go hC hW hL ⟨_, _, rfl, rfl, hS⟩ hp h1 h2)
theorem rn_laload {o n : Nat} {f : Nat → Int64} {i : Int32} {x : Int64} (hd : decode M.2.1 pc = .ok (.laload, 1)) (ho : w[o]? = some (rn_l n f)) (h : aG f n i = some x) (kk : Rn Z M (pc + 1) ls (.long x :: st) w ca sa K) : Rn Z M pc ls (.int i :: .ref o :: st) w ca sa K := by
  intro p e s m args below meth c H locs cells slots mc ms A ad0 ad ws tys la sta hC hW hL hS hp h1 h2
  obtain ⟨_, _, rfl, rfl, _, _, rfl, ⟨a, ha, rfl⟩, hS⟩ := hS
  obtain ⟨a', ha', k0, t0, cA, h0, ht⟩ := hW.1.2.2 _ _ ho
  cases ha.symm.trans ha'
  obtain ⟨hin, rfl⟩ := aG_some h
  exact va_lald hC.1 hC.2.1 hW.2.2.1 hW.2.1 k0 t0 h0 ht hin hd (kk.go hC hW hL ⟨_, _, rfl, rfl, hS⟩ hp h1 h2)
theorem rn_aaload {o y : Nat} {ty : FieldType} {l : List (Option Nat)} {i : Int32} (hd : decode M.2.1 pc = .ok (.aaload, 1)) (ho : w[o]? = some (rn_q ty l)) (hin : vp_in i l.length) (hy : l[i.toNatClampNeg]? = some (some y)) (kk : Rn Z M (pc + 1) ls (.ref y :: st) w ca sa K) : Rn Z M pc ls (.int i :: .ref o :: st) w ca sa K := by
  intro p e s m args below meth c H locs cells slots mc ms A ad0 ad ws tys la sta hC hW hL hS hp h1 h2
  obtain ⟨_, _, rfl, rfl, _, _, rfl, ⟨a, ha, rfl⟩, hS⟩ := hS
  obtain ⟨a', ha', k0, t0, cA, g, h0, ht, hrf, hg⟩ := hW.1.2.2 _ _ ho
  cases ha.symm.trans ha'
  obtain ⟨a2, ha2, hg2⟩ := hg _ _ hy
  have hlt : i.toNatClampNeg < l.length := Nat.not_le.mp fun q => hin (Or.inr q)
  exact W.aald (v := .ref a2) (ty := ty) hC.1 hC.2.1 (hW.2.1 k0 _ h0) ((hW.2.2.1.2 t0 _ ht).1 l.length (fun j => va_rf (g j))) hrf (fun q => by cases q) (by show ¬ (i < 0 ∨ (arrV _ _ _).slots.size ≤ _); rw [arrV_size]; exact hin) (by show (arrV _ _ _).slots[_]? = _; rw [arrV_read _ _ hlt, hg2]; rfl) rfl rfl hd (kk.go hC hW hL ⟨_, _, rfl, ⟨a2, ha2, rfl⟩, hS⟩ hp h1 h2)
theorem rn_sload {o : Nat} {i x : Int32} (hd : decode M.2.1 pc = .ok (.iaload, 1)) (ho : w[o]? = some rn_s) (h : aG Z.2.2.2.2 Z.2.2.2.1 i = some x) (kk : Rn Z M (pc + 1) ls (.int x :: st) w ca sa K) : Rn Z M pc ls (.int i :: .ref o :: st) w ca sa K := by
  intro p e s m args below meth c H locs cells slots mc ms A ad0 ad ws tys la sta hC hW hL hS hp h1 h2
  obtain ⟨_, _, rfl, rfl, _, _, rfl, ⟨a, ha, rfl⟩, hS⟩ := hS
  obtain ⟨a', ha', hb⟩ := hW.1.2.2 _ _ ho
  have hb : a' = _ := hb
  cases ha.symm.trans ha'
  subst hb
  obtain ⟨hin, rfl⟩ := aG_some h
  exact va_sld hC.1 hC.2.1 hC.2.2.2.2.2.2.2.2.2.1 hC.2.2.2.2.2.2.2.2.2.2.1 hC.2.2.2.2.2.2.2.2.2.2.2.1 hW.2.2.2.2 hin hd (kk.go hC hW hL ⟨_, _, rfl, rfl, hS⟩ hp h1 h2)
theorem rn_slen {o : Nat} (hd : decode M.2.1 pc = .ok (.arraylength, 1)) (ho : w[o]? = some rn_s) (kk : Rn Z M (pc + 1) ls (.int (Int32.ofNat Z.2.2.2.1) :: st) w ca sa K) : Rn Z M pc ls (.ref o :: st) w ca sa K := by
  intro p e s m args below meth c H locs cells slots mc ms A ad0 ad ws tys la sta hC hW hL hS hp h1 h2
  obtain ⟨_, _, rfl, ⟨a, ha, rfl⟩, hS⟩ := hS
  obtain ⟨a', ha', hb⟩ := hW.1.2.2 _ _ ho
  have hb : a' = _ := hb
  cases ha.symm.trans ha'
  subst hb
  exact va_slen hC.1 hC.2.1 hC.2.2.2.2.2.2.2.2.2.1 hC.2.2.2.2.2.2.2.2.2.2.1 hC.2.2.2.2.2.2.2.2.2.2.2.1 hW.2.2.2.2 hd (kk.go hC hW hL ⟨_, _, rfl, rfl, hS⟩ hp h1 h2)
theorem rn_iastore {o n : Nat} {f f1 : Nat → Int32} {i : Int32} {x : Int32} (hd : decode M.2.1 pc = .ok (.iastore, 1)) (ho : w[o]? = some (rn_i .int n f)) (h : aS f n i (x) = some f1) (hw2 : w.set o (rn_i .int n f1) = w2) (kk : Rn Z M (pc + 1) ls st w2 ca sa K) : Rn Z M pc ls (.int x :: .int i :: .ref o :: st) w ca sa K := by
  intro p e s m args below meth c H locs cells slots mc ms A ad0 ad ws tys la sta hC hW hL hS hp h1 h2
  obtain ⟨_, _, rfl, rfl, _, _, rfl, rfl, _, _, rfl, ⟨a, ha, rfl⟩, hS⟩ := hS
  obtain ⟨a', ha', k0, t0, cA, h0, ht⟩ := hW.1.2.2 _ _ ho
  cases ha.symm.trans ha'
  subst hw2
  obtain ⟨hin, hf1⟩ := aS_some h
  refine va_iast hC.1 hC.2.1 hW.2.2.1 hW.2.1 hW.2.2.2.1 hW.2.2.2.2 k0 t0 h0 ht hin hd (fun H1 locs1 q1 q2 q3 => ?_)
  subst hf1
  exact kk.go hC ⟨rn_w_set hW.1 ha h0 ⟨k0, t0, cA, List.getElem?_set_self (List.getElem?_eq_some_iff.mp h0).1, ht⟩, q1, hW.2.2.1, q2, q3⟩ hL hS hp h1 h2
theorem rn_castore {o n : Nat} {f f1 : Nat → Int32} {i : Int32} {x : Int32} (hd : decode M.2.1 pc = .ok (.castore, 1)) (ho : w[o]? = some (rn_i .char n f)) (h : aS f n i (rn_ch x) = some f1) (hw2 : w.set o (rn_i .char n f1) = w2) (kk : Rn Z M (pc + 1) ls st w2 ca sa K) : Rn Z M pc ls (.int x :: .int i :: .ref o :: st) w ca sa K := by
  intro p e s m args below meth c H locs cells slots mc ms A ad0 ad ws tys la sta hC hW hL hS hp h1 h2
  obtain ⟨_, _, rfl, rfl, _, _, rfl, rfl, _, _, rfl, ⟨a, ha, rfl⟩, hS⟩ := hS
  obtain ⟨a', ha', k0, t0, cA, h0, ht⟩ := hW.1.2.2 _ _ ho
  cases ha.symm.trans ha'
  subst hw2
  obtain ⟨hin, hf1⟩ := aS_some h
  refine va_cast hC.1 hC.2.1 hW.2.2.1 hW.2.1 hW.2.2.2.1 hW.2.2.2.2 k0 t0 h0 ht hin hd (fun H1 locs1 q1 q2 q3 => ?_)
  subst hf1
  exact kk.go hC ⟨rn_w_set hW.1 ha h0 ⟨k0, t0, cA, List.getElem?_set_self (List.getElem?_eq_some_iff.mp h0).1, ht⟩, q1, hW.2.2.1, q2, q3⟩ hL hS hp h1 h2
theorem rn_lastore {o n : Nat} {f f1 : Nat → Int64} {i : Int32} {x : Int64} (hd : decode M.2.1 pc = .ok (.lastore, 1)) (ho : w[o]? = some (rn_l n f)) (h : aS f n i (x) = some f1) (hw2 : w.set o (rn_l n f1) = w2) (kk : Rn Z M (pc + 1) ls st w2 ca sa K) : Rn Z M pc ls (.long x :: .int i :: .ref o :: st) w ca sa K := by
  intro p e s m args below meth c H locs cells slots mc ms A ad0 ad ws tys la sta hC hW hL hS hp h1 h2
  obtain ⟨_, _, rfl, rfl, _, _, rfl, rfl, _, _, rfl, ⟨a, ha, rfl⟩, hS⟩ := hS
  obtain ⟨a', ha', k0, t0, cA, h0, ht⟩ := hW.1.2.2 _ _ ho
  cases ha.symm.trans ha'
  subst hw2
  obtain ⟨hin, hf1⟩ := aS_some h
  refine va_last hC.1 hC.2.1 hW.2.2.1 hW.2.1 hW.2.2.2.1 hW.2.2.2.2 k0 t0 h0 ht hin hd (fun H1 locs1 q1 q2 q3 => ?_)
  subst hf1
  exact kk.go hC ⟨rn_w_set hW.1 ha h0 ⟨k0, t0, cA, List.getElem?_set_self (List.getElem?_eq_some_iff.mp h0).1, ht⟩, q1, hW.2.2.1, q2, q3⟩ hL hS hp h1 h2
theorem rn_last {α : Type} {l : List α} {x : α} : (l ++ [x])[l.length]? = some x := by
  rw [List.getElem?_append_right (Nat.le_refl _), Nat.sub_self]; rfl
theorem rn_addr {ad : List Nat} {b j a : Nat} {tys : List (ClassId × FieldType)} {ws : va_W} (hw : rn_w ad b tys w ws) (hj : ad[j]? = some a) : a = b ∨ ∃ (k : Nat) (x : va_E), ws[k]? = some (a, x) := by
  have hl : j < w.length := by rw [← hw.1]; exact (List.getElem?_eq_some_iff.mp hj).1
  obtain ⟨a', h1, h2⟩ := hw.2.2 j _ (List.getElem?_eq_getElem hl)
  cases hj.symm.trans h1
  revert h2
  generalize w[j] = cell
  intro h2
  match cell, h2 with
  | .inl (ty, n, f), ⟨k, t0, cA, g1, _⟩ => exact Or.inr ⟨k, _, g1⟩
  | .inr (.inl (n, f)), ⟨k, t0, cA, g1, _⟩ => exact Or.inr ⟨k, _, g1⟩
  | .inr (.inr (.inl (ty, l))), ⟨k, t0, cA, g, g1, _⟩ => exact Or.inr ⟨k, _, g1⟩
  | .inr (.inr (.inr (.inl (ci, fs)))), ⟨k, us, g1, _⟩ => exact Or.inr ⟨k, _, g1⟩
  | .inr (.inr (.inr (.inr _))), h => exact Or.inl h
/-- a new cell's address is none of the old ones -/
theorem rn_fresh {ad : List Nat} {b q : Nat} {tys : List (ClassId × FieldType)} {ws : va_W} {A : Nat → Prop} {e : va_E} (hw : rn_w ad b tys w ws) (hD : va_D A (ws ++ [(q, e)])) (hb : ¬ A b) : ∀ (j a : Nat), ad[j]? = some a → a ≠ q := by
  intro j a hj hqa
  subst hqa
  have hA : A a := hD.2 ws.length (a, e) rn_last
  rcases rn_addr hw hj with h | ⟨k, x, hk⟩
  · exact hb (h ▸ hA)
  · have h3 := hD.1 k ws.length (a, x) (a, e) (rn_gl hk) rn_last rfl
    have h4 := (List.getElem?_eq_some_iff.mp hk).1
    omega
def rn_Nw (own : String) (idx ci N : Nat) (fs : List Value) : Prop := ∃ (C : String) (T : u_T) (ty : Nat → FieldType), rn_Cl ci C T N ty ∧ Cond.classLink own idx C ∈ rn_tb ∧ Cond.instantiable C N ∈ rn_tb ∧ Cond.initialized C ∈ rn_tb ∧ (∀ j, j < N → defaultValue (ty j) = vp_V fs j) ∧ ∀ ad, rn_vs ad fs fs
theorem rn_new {idx ci N : Nat} {fs : List Value} (hf : rn_Nw M.1.cls idx ci N fs) (hd : decode M.2.1 pc = .ok (.new idx, 3)) (hw2 : w ++ [rn_o ci fs] = w2) (kk : Rn Z M (pc + 3) ls (.ref w.length :: st) w2 ca sa K) : Rn Z M pc ls st w (ca + 1) (sa + N) K := by
  intro p e s m args below meth c H locs cells slots mc ms A ad0 ad ws tys la sta hC hW hL hS hp h1 h2
  obtain ⟨C, T, ty, ⟨c1, c2, c3, c4⟩, w1, w2', w3, hdef, hfs⟩ := hf
  subst hw2
  refine va_new hC.1 hC.2.1 hC.2.2.2.2.1 c2 ty c3 hC.2.2.2.1 (hC.2.2.2.2.1 _ w1) (hC.2.2.2.2.1 _ w2') (hC.2.2.2.2.1 _ w3) hW.2.2.1 hW.2.1 hW.2.2.2.1 hW.2.2.2.2 hC.2.2.2.2.2.2.2.2.1 c1 hdef (show cells + 1 ≤ mc by omega) (show slots + N ≤ ms by omega) hd (fun q H1 q1 q2 q3 => ?_)
  have hq := rn_fresh hW.1 q2 hC.2.2.2.2.2.2.2.2.2.2.2.1
  have hlen : ad.length = w.length := hW.1.1
  have hpush := rn_w_push (t2 := []) (c1 := rn_o ci fs) (e1 := .inr (ci, fs)) hW.1 hq ⟨ws.length, fs, rn_last, hfs _⟩
  rw [List.append_nil] at hpush
  obtain ⟨l0, hl0⟩ := hp
  exact kk.go hC ⟨hpush, q1, hW.2.2.1, q2, q3⟩ (rn_L_grow hL) ⟨_, _, rfl, ⟨q, by rw [← hlen]; exact rn_last, rfl⟩, rn_vs_grow hS⟩ ⟨l0 ++ [q], by rw [hl0, List.append_assoc]⟩ (by omega) (by omega)
theorem rn_newI {n : Int32} {N : Nat} (hw : Cond.arrayClass .int ∈ rn_tb) (hd : decode M.2.1 pc = .ok (.newarray .int, 2)) (hn : ¬ n < 0) (hN : n.toNatClampNeg = N) (hb : N * componentBytes .int ≤ 536870912) (hw2 : w ++ [rn_i .int N (fun _ => 0)] = w2) (kk : Rn Z M (pc + 2) ls (.ref w.length :: st) w2 ca sa K) : Rn Z M pc ls (.int n :: st) w (ca + 1) (sa + N) K := by
  intro p e s m args below meth c H locs cells slots mc ms A ad0 ad ws tys la sta hC hW hL hS hp h1 h2
  obtain ⟨_, _, rfl, rfl, hS⟩ := hS
  subst hw2
  refine va_newa (a0 := (N, .inl (fun _ => 0))) hC.1 hC.2.1 (atype := .int) (hC.2.2.2.2.1 _ hw) rfl hW.2.2.1 hW.2.1 hW.2.2.2.1 hW.2.2.2.2 hC.2.2.2.2.2.2.2.2.1 (fun cA => rfl) hn hN hb (show cells + 1 ≤ mc by omega) (show slots + N ≤ ms by omega) hd (fun q cA H1 q0 q1 q2 q3 => ?_)
  have hq := rn_fresh hW.1 q2 hC.2.2.2.2.2.2.2.2.2.2.2.1
  have hlen : ad.length = w.length := hW.1.1
  have hpush := rn_w_push (t2 := [(cA, .int)]) (c1 := rn_i .int N (fun _ => 0)) (e1 := .inl (cA, (N, .inl (fun _ => 0)))) hW.1 hq ⟨ws.length, tys.length, cA, rn_last, rn_last⟩
  obtain ⟨l0, hl0⟩ := hp
  exact kk.go hC ⟨hpush, q1, q0, q2, q3⟩ (rn_L_grow hL) ⟨_, _, rfl, ⟨q, by rw [← hlen]; exact rn_last, rfl⟩, rn_vs_grow hS⟩ ⟨l0 ++ [q], by rw [hl0, List.append_assoc]⟩ (by omega) (by omega)
theorem rn_newC {n : Int32} {N : Nat} (hw : Cond.arrayClass .char ∈ rn_tb) (hd : decode M.2.1 pc = .ok (.newarray .char, 2)) (hn : ¬ n < 0) (hN : n.toNatClampNeg = N) (hb : N * componentBytes .char ≤ 536870912) (hw2 : w ++ [rn_i .char N (fun _ => 0)] = w2) (kk : Rn Z M (pc + 2) ls (.ref w.length :: st) w2 ca sa K) : Rn Z M pc ls (.int n :: st) w (ca + 1) (sa + N) K := by
  intro p e s m args below meth c H locs cells slots mc ms A ad0 ad ws tys la sta hC hW hL hS hp h1 h2
  obtain ⟨_, _, rfl, rfl, hS⟩ := hS
  subst hw2
  refine va_newa (a0 := (N, .inl (fun _ => 0))) hC.1 hC.2.1 (atype := .char) (hC.2.2.2.2.1 _ hw) rfl hW.2.2.1 hW.2.1 hW.2.2.2.1 hW.2.2.2.2 hC.2.2.2.2.2.2.2.2.1 (fun cA => rfl) hn hN hb (show cells + 1 ≤ mc by omega) (show slots + N ≤ ms by omega) hd (fun q cA H1 q0 q1 q2 q3 => ?_)
  have hq := rn_fresh hW.1 q2 hC.2.2.2.2.2.2.2.2.2.2.2.1
  have hlen : ad.length = w.length := hW.1.1
  have hpush := rn_w_push (t2 := [(cA, .char)]) (c1 := rn_i .char N (fun _ => 0)) (e1 := .inl (cA, (N, .inl (fun _ => 0)))) hW.1 hq ⟨ws.length, tys.length, cA, rn_last, rn_last⟩
  obtain ⟨l0, hl0⟩ := hp
  exact kk.go hC ⟨hpush, q1, q0, q2, q3⟩ (rn_L_grow hL) ⟨_, _, rfl, ⟨q, by rw [← hlen]; exact rn_last, rfl⟩, rn_vs_grow hS⟩ ⟨l0 ++ [q], by rw [hl0, List.append_assoc]⟩ (by omega) (by omega)
theorem rn_newL {n : Int32} {N : Nat} (hw : Cond.arrayClass .long ∈ rn_tb) (hd : decode M.2.1 pc = .ok (.newarray .long, 2)) (hn : ¬ n < 0) (hN : n.toNatClampNeg = N) (hb : N * componentBytes .long ≤ 536870912) (hw2 : w ++ [rn_l N (fun _ => 0)] = w2) (kk : Rn Z M (pc + 2) ls (.ref w.length :: st) w2 ca sa K) : Rn Z M pc ls (.int n :: st) w (ca + 1) (sa + N) K := by
  intro p e s m args below meth c H locs cells slots mc ms A ad0 ad ws tys la sta hC hW hL hS hp h1 h2
  obtain ⟨_, _, rfl, rfl, hS⟩ := hS
  subst hw2
  refine va_newa (a0 := (N, .inr (.inl (fun _ => 0)))) hC.1 hC.2.1 (atype := .long) (hC.2.2.2.2.1 _ hw) rfl hW.2.2.1 hW.2.1 hW.2.2.2.1 hW.2.2.2.2 hC.2.2.2.2.2.2.2.2.1 (fun cA => rfl) hn hN hb (show cells + 1 ≤ mc by omega) (show slots + N ≤ ms by omega) hd (fun q cA H1 q0 q1 q2 q3 => ?_)
  have hq := rn_fresh hW.1 q2 hC.2.2.2.2.2.2.2.2.2.2.2.1
  have hlen : ad.length = w.length := hW.1.1
  have hpush := rn_w_push (t2 := [(cA, .long)]) (c1 := rn_l N (fun _ => 0)) (e1 := .inl (cA, (N, .inr (.inl (fun _ => 0))))) hW.1 hq ⟨ws.length, tys.length, cA, rn_last, rn_last⟩
  obtain ⟨l0, hl0⟩ := hp
  exact kk.go hC ⟨hpush, q1, q0, q2, q3⟩ (rn_L_grow hL) ⟨_, _, rfl, ⟨q, by rw [← hlen]; exact rn_last, rfl⟩, rn_vs_grow hS⟩ ⟨l0 ++ [q], by rw [hl0, List.append_assoc]⟩ (by omega) (by omega)
/-- Object.<init> -/
theorem rn_objInit {idx : Nat} {v : Nat} (hl : Cond.methodLink M.1.cls idx Lib.objectInit ∈ rn_tb) (hi : Cond.instanceMethod Lib.objectInit ∈ rn_tb) (hc : Cond.code Lib.objectInit ⟨#[0xb1]⟩ 1 none ∈ rn_tb) (hd : decode M.2.1 pc = .ok (.invokespecial idx, 3)) (hf : 1 ≤ M.2.2.2.2.1) (hr : (st.map fun v => v.category).sum + 12 ≤ M.2.2.2.2.2) (kk : Rn Z M (pc + 3) ls st w ca sa K) : Rn Z M pc ls (.ref v :: st) w ca sa K := by
  intro p e s m args below meth c H locs cells slots mc ms A ad0 ad ws tys la sta hC hW hL hS hp h1 h2
  obtain ⟨_, us, rfl, ⟨a, ha, rfl⟩, hS⟩ := hS
  have hcat := rn_vs_cats hS
  exact W.objInit hC.1 hC.2.1 hC.2.2.2.1 (hC.2.2.2.2.1 _ hl) (hC.2.2.2.2.1 _ hi) (hC.2.2.2.2.1 _ hc) rfl (hL.1.trans hC.2.2.1.symm) rfl hd hf (show 2 * 0 + (us.map fun v => v.category).sum + 12 ≤ M.2.2.2.2.2 by rw [hcat]; omega) (kk.go hC hW hL hS hp h1 h2)
/-! ends -/
theorem rn_end {p : Program} {s t : State} {H : Heap} {locs : List Loc} {args : Array Value} {m : MethodId} {meth : Method} {c : Code} {A : Nat → Prop} {ad0 ad : List Nat} {ws : va_W} {tys : List (ClassId × FieldType)} {r v : Option Value} {a : Array Value} (hW : rn_Wd Z A s H locs ad tys w ws) (hp : ∃ l, ad = ad0 ++ l) (hr : rn_oo ad r v) (ht : t.heap = H) (hw : s.WarmedH t.vm) : rn_Q Z A ad0 r w a s (.returned v) t :=
  ⟨⟨ad, ws, tys, v, hp, rfl, hr, hW.1, by rw [ht]; exact hW.2.1, va_K.moved hw.alike hW.2.2.1, hW.2.2.2.1⟩, hW.2.2.2.2.F ht⟩
theorem rn_ireturn {x : Int32} (hd : decode M.2.1 pc = .ok (.ireturn, 1)) (hr : M.2.2.2.1 = some .int) : Rn Z M pc ls [.int x] w ca sa (rn_Ret Z (some (.int x)) w) := by
  intro p e s m args below meth c H locs cells slots mc ms A ad0 ad ws tys la sta hC hW hL hS hp h1 h2
  obtain ⟨_, _, rfl, rfl, hS⟩ := hS
  have hS : _ = _ := hS
  subst hS
  refine W.widen (k := mc) (n := ms) (by omega) (by omega) ?_
  exact W.iret (v := x) hC.1 hC.2.1 (hC.2.2.2.2.2.2.1.trans hr) (fun t ht hw => rn_end (r := some (.int x)) (p := p) (m := m) (meth := meth) (c := c) (args := args) hW hp ⟨_, rfl, rfl⟩ ht hw) hW.2.2.2.2.2.2 hd hC.2.2.2.2.2.1
theorem rn_zreturn {x : Int32} (hd : decode M.2.1 pc = .ok (.ireturn, 1)) (hr : M.2.2.2.1 = some .boolean) (hx : x = 0 ∨ x = 1) : Rn Z M pc ls [.int x] w ca sa (rn_Ret Z (some (.int x)) w) := by
  intro p e s m args below meth c H locs cells slots mc ms A ad0 ad ws tys la sta hC hW hL hS hp h1 h2
  obtain ⟨_, _, rfl, rfl, hS⟩ := hS
  have hS : _ = _ := hS
  subst hS
  refine W.widen (k := mc) (n := ms) (by omega) (by omega) ?_
  exact W.zret (v := x) (ty := .boolean) hC.1 hC.2.1 (hC.2.2.2.2.2.2.1.trans hr) (by rcases hx with rfl | rfl <;> rfl) (fun t ht hw => rn_end (r := some (.int x)) (p := p) (m := m) (meth := meth) (c := c) (args := args) hW hp ⟨_, rfl, rfl⟩ ht hw) hW.2.2.2.2.2.2 hd hC.2.2.2.2.2.1
theorem rn_lreturn {x : Int64} (hd : decode M.2.1 pc = .ok (.lreturn, 1)) (hr : M.2.2.2.1 = some .long) : Rn Z M pc ls [.long x] w ca sa (rn_Ret Z (some (.long x)) w) := by
  intro p e s m args below meth c H locs cells slots mc ms A ad0 ad ws tys la sta hC hW hL hS hp h1 h2
  obtain ⟨_, _, rfl, rfl, hS⟩ := hS
  have hS : _ = _ := hS
  subst hS
  refine W.widen (k := mc) (n := ms) (by omega) (by omega) ?_
  exact W.lret (v := x) hC.1 hC.2.1 (hC.2.2.2.2.2.2.1.trans hr) (fun t ht hw => rn_end (r := some (.long x)) (p := p) (m := m) (meth := meth) (c := c) (args := args) hW hp ⟨_, rfl, rfl⟩ ht hw) hW.2.2.2.2.2.2 hd hC.2.2.2.2.2.1
theorem rn_return (hd : decode M.2.1 pc = .ok (.return_, 1)) (hr : M.2.2.2.1 = none) : Rn Z M pc ls [] w ca sa (rn_Ret Z none w) := by
  intro p e s m args below meth c H locs cells slots mc ms A ad0 ad ws tys la sta hC hW hL hS hp h1 h2
  have hS : _ = _ := hS
  subst hS
  refine W.widen (k := mc) (n := ms) (by omega) (by omega) ?_
  exact W.vret hC.1 hC.2.1 (hC.2.2.2.2.2.2.1.trans hr) (fun t ht hw => rn_end (r := none) (p := p) (m := m) (meth := meth) (c := c) (args := args) hW hp (show rn_oo ad none none from rfl) ht hw) hW.2.2.2.2.2.2 hd hC.2.2.2.2.2.1
end
end
section
/-! The core, third part: calls, and a world under other numbers. -/
theorem rn_pay {args : Array Value} {s : State} (hts : ∀ w ∈ rn_tb, w.before args s = true) : ∀ w ∈ rn_tb, ∀ (a' : Array Value) (U : State), s.WarmedH U.vm → w.before a' U = true := fun w hw a' U hW => rn_warm (List.mem_filter.mp hw).2 (hts w hw) hW
theorem rn_blind {Z : rn_Z} {ws : va_W} {tys : List (ClassId × FieldType)} {ava : List Value} {sz : Nat} : FrameBlind (rn_P Z ws tys ava sz) := fun a U g mk q => by
  obtain ⟨q0, q1, qP, qK, qD, qX, qb, qn, qT⟩ := q
  exact ⟨q0, q1, qP, va_K.moved (u := U) (U := U.calling g mk a) (Vm.Alike.refl U.vm) qK, qD, va_X.moved (u := U) (U := U.calling g mk a) (Vm.Alike.refl U.vm) qX, qb, qn, qT.same (s := U) (U := U.calling g mk a) rfl⟩
def rn_Fit (M N : rn_M) : Prop := N.2.2.2.2.1 + 1 ≤ M.2.2.2.2.1 ∧ 8 + (N.2.2.1 + 11) + N.2.2.2.2.2 ≤ M.2.2.2.2.2
def rn_Inv (N : rn_M) (n : Nat) : Prop := Cond.code N.1 N.2.1 N.2.2.1 N.2.2.2.1 ∈ rn_tb ∧ Cond.initialized N.1.cls ∈ rn_tb ∧ (N.1.cls ≠ "java/lang/invoke/MethodHandle" ∧ N.1.cls ≠ "java/lang/invoke/VarHandle") ∧ (parseMethodDescriptor N.1.desc).map (fun d => d.parameters.length) = some n
def rn_IV (own : String) (idx : Nat) (N : rn_M) (n ci : Nat) : Prop := rn_Inv N n ∧ (Cond.methodLink own idx N.1 ∈ rn_tb ∨ ∃ host, Cond.methodLinkNest own idx N.1 host ∈ rn_tb) ∧ Cond.instanceMethod N.1 ∈ rn_tb ∧ Cond.selects N.1.cls N.1 N.1 ∈ rn_tb ∧ ∃ q : vw_C, rn_cl[ci]? = some q ∧ q.1 = N.1.cls
def rn_IS (own : String) (idx : Nat) (N : rn_M) (n : Nat) : Prop := rn_Inv N n ∧ (Cond.methodLink own idx N.1 ∈ rn_tb ∨ ∃ host, Cond.methodLinkNest own idx N.1 host ∈ rn_tb) ∧ Cond.static N.1 ∈ rn_tb
def rn_II (own : String) (idx : Nat) (N : rn_M) (n : Nat) : Prop := rn_Inv N n ∧ (Cond.methodLink own idx N.1 ∈ rn_tb ∨ ∃ host, Cond.methodLinkNest own idx N.1 host ∈ rn_tb) ∧ Cond.instanceMethod N.1 ∈ rn_tb ∧ N.1.name = "<init>"
section
variable {Z : rn_Z} {M N : rn_M} {pc : Nat} {ls : List (Option Value)} {st st0 : List Value} {w w1 : List rn_C} {ca sa ca' sa' : Nat} {K : rn_K} {r : Option Value}
theorem rn_callB {R : Room} {s : State} {args : Array Value} {own : String} {idx n : Nat} (hts : ∀ w ∈ rn_tb, w.before args s = true) (hI : rn_Inv N n) (hl : Cond.methodLink own idx N.1 ∈ rn_tb) (hf : N.2.2.2.2.1 + 1 ≤ R.frames ∧ 8 + (N.2.2.1 + 11) + N.2.2.2.2.2 ≤ R.locals) : CallB R s args own idx N.1 N.2.1 N.2.2.1 N.2.2.2.1 (rn_ws N) (rn_R N ca' sa') ca' sa' n := by
  refine ⟨rfl, rfl, hf.1, hf.2, fun w hw => ?_, List.mem_cons_self, hts _ hI.1, hts _ hI.2.1, hI.2.2.1, fun sig h => ?_, hts _ hl⟩
  · rcases List.mem_cons.mp hw with h | h
    · subst h
      exact rn_pay hts _ hI.1
    · exact rn_pay hts _ h
  · have h2 := hI.2.2.2
    rw [h] at h2
    exact (Option.some.inj h2).symm
theorem rn_callN {R : Room} {s : State} {args : Array Value} {own host : String} {idx n : Nat} (hts : ∀ w ∈ rn_tb, w.before args s = true) (hI : rn_Inv N n) (hl : Cond.methodLinkNest own idx N.1 host ∈ rn_tb) (hf : N.2.2.2.2.1 + 1 ≤ R.frames ∧ 8 + (N.2.2.1 + 11) + N.2.2.2.2.2 ≤ R.locals) : va_CN R s args own idx N.1 host N.2.1 N.2.2.1 N.2.2.2.1 (rn_ws N) (rn_R N ca' sa') ca' sa' n := by
  refine ⟨⟨rfl, rfl, hf.1, hf.2, fun w hw => ?_, List.mem_cons_self⟩, hts _ hI.1, hts _ hI.2.1, hI.2.2.1, fun sig h => ?_, hts _ hl⟩
  · rcases List.mem_cons.mp hw with h | h
    · subst h
      exact rn_pay hts _ hI.1
    · exact rn_pay hts _ h
  · have h2 := hI.2.2.2
    rw [h] at h2
    exact (Option.some.inj h2).symm
theorem rn_pre {p : Program} {s : State} {m : MethodId} {args : Array Value} {meth : Method} {c : Code} {H : Heap} {locs : List Loc} {A : Nat → Prop} {ad : List Nat} {ws : va_W} {tys : List (ClassId × FieldType)} {ava : List Value} (hC : rn_X Z M p s m args meth c A) (hW : rn_Wd Z A s H locs ad tys w ws) : ∀ U : State, U.heap = H → s.WarmedH U.vm → rn_P Z ws tys ava H.size ava.toArray U := by
  intro U hU hw
  have hX := va_X.kept hC.2.2.2.2.2.2.2.2.2.1 (hW.2.2.2.2.2.1 _ hC.2.2.2.2.2.2.2.2.2.2.1 hC.2.2.2.2.2.2.2.2.2.2.2.1)
  refine ⟨rfl, by rw [hU], by rw [hU]; exact hW.2.1, va_K.moved hw.alike hW.2.2.1, hW.2.2.2.1.weaken (fun _ _ _ _ => trivial), by rw [hU]; exact va_X.moved hw.alike hX, Nat.lt_of_lt_of_le hC.2.2.2.2.2.2.2.2.2.2.1 hW.2.2.2.2.1, fun k e hk => ?_, ?_⟩
  · exact hC.2.2.2.2.2.2.2.2.2.2.2.1 (hW.2.2.2.1.2 k _ hk)
  · rw [hU]
    refine rn_Th.warm hw ((hC.2.2.2.2.2.2.2.2.2.2.2.2.1.kept hW.2.2.2.2.2.1).narrow (fun q hq => ?_))
    rcases hq with ⟨k0, e0, hk0⟩ | hq
    · exact hW.2.2.2.1.2 k0 _ hk0
    · exact hC.2.2.2.2.2.2.2.2.1 q (Nat.le_trans hW.2.2.2.2.1 hq)
/-- behind a call -/
theorem rn_goon {p : Program} {e : Env} {s : State} {m : MethodId} {args : Array Value} {below : List Frame} {meth : Method} {c : Code} {H : Heap} {locs : List Loc} {cells slots mc ms : Nat} {A : Nat → Prop} {ad0 ad : List Nat} {ws : va_W} {tys : List (ClassId × FieldType)} {la : Array Slot} {rest sta : List Value} {aa : Array Value}
    (hC : rn_X Z M p s m args meth c A) (hW : rn_Wd Z A s H locs ad tys w ws) (hL : rn_L ad la M.2.2.1 ls) (hS : rn_vs ad st rest) (hp : ∃ l, ad = ad0 ++ l) (h1 : cells + (ca + ca') ≤ mc) (h2 : slots + (sa + sa') ≤ ms)
    (hr : va_Run p Z.1 e (rn_R M mc ms) s m args below meth c H locs cells slots ca' sa' (F0 m pc la sta) rest (rn_Q Z (va_A ws H.size) ad r w1 aa) (va_A ws H.size))
    (k : Rn Z M (pc + 3) ls (r.toList ++ st) w1 ca sa K) : W p Z.1 e (rn_R M mc ms) s m args below meth c H locs cells slots (K below args s mc ms A ad0) (F0 m pc la sta) := by
  have hAA : ∀ q, va_A ws H.size q → A q := by
    intro q hq
    rcases hq with ⟨k0, e0, hk0⟩ | hq
    · exact hW.2.2.2.1.2 k0 _ hk0
    · exact hC.2.2.2.2.2.2.2.2.1 q (Nat.le_trans hW.2.2.2.2.1 hq)
  intro T hT X
  obtain ⟨v, st₀, t, T', L, h0, X', hLb, e1, e2, hq, stp⟩ := hr T hT X
  obtain ⟨⟨ad', ws', tys', v', ⟨l', hl'⟩, ho, hv, hw1, hP1, hK1, hD1⟩, hz, hkp⟩ := hq
  cases ho
  rw [h0] at hz hkp
  subst hl'
  obtain ⟨l0, hl0⟩ := hp
  have hal : t.vm.Alike s.vm := by rw [← e2]; exact X'.warmed.alike.symm
  have hP2 : va_P Z.2.1 rn_cl ws' T'.heap := by rw [e1]; exact hP1
  have hS2 : va_S A s.heap T'.heap (locs ++ L) := by
    refine ⟨by rw [e1]; exact Nat.le_trans hW.2.2.2.2.1 hz, fun q g1 g2 => ?_, fun q hq => ?_⟩
    · rw [e1, hkp q (Nat.lt_of_lt_of_le g1 hW.2.2.2.2.1) (fun z => g2 (hAA q z))]
      exact hW.2.2.2.2.2.1 q g1 g2
    · rcases List.mem_append.mp hq with h | h
      · exact hW.2.2.2.2.2.2 q h
      · exact hAA _ (hLb q h)
  have hst : rn_vs (ad ++ l') (r.toList ++ st) (v.toList ++ rest) := by
    cases r with
    | none =>
      have hv : v = none := hv
      subst hv
      exact rn_vs_grow hS
    | some x =>
      obtain ⟨u, rfl, hu⟩ := hv
      exact ⟨u, rest, rfl, hu, rn_vs_grow hS⟩
  have hWd2 : rn_Wd Z A s T'.heap (locs ++ L) (ad ++ l') tys' w1 ws' := ⟨hw1, hP2, va_K.moved hal hK1, hD1.weaken (fun _ _ _ q => hAA _ q), hS2⟩
  obtain ⟨t2, a1, b1⟩ := k.go (p := p) (e := e) (below := below) (cells := cells + ca') (slots := slots + sa') (mc := mc) (ms := ms) (ad0 := ad0) hC hWd2 (rn_L_grow hL) hst ⟨l0 ++ l', by rw [hl0, List.append_assoc]⟩ (by omega) (by omega) T' rfl X'
  exact ⟨t2, stp t2 a1, b1⟩
theorem rn_invV {idx n ci ob : Nat} {av : List Value} {fs : List Value} (hc : Call Z N (.ref ob :: av) w ca' sa' r w1) (hI : rn_IV M.1.cls idx N n ci) (hf : rn_Fit M N) (hd : decode M.2.1 pc = .ok (.invokevirtual idx, 3)) (ho : w[ob]? = some (rn_o ci fs)) (hn : av.length = n) (hst : av.reverse ++ .ref ob :: st = st0) (hrm : (st.map fun v => v.category).sum ≤ 8) (k : Rn Z M (pc + 3) ls (r.toList ++ st) w1 ca sa K) : Rn Z M pc ls st0 w (ca + ca') (sa + sa') K := by
  intro p e s m args below meth c H locs cells slots mc ms A ad0 ad ws tys la sta hC hW hL hS hp h1 h2
  subst hst
  obtain ⟨u1, u2, rfl, g1, u, rest, rfl, ⟨a, ha, rfl⟩, g2⟩ := rn_vs_app hS
  have hav : rn_vs ad av u1.reverse := by have := rn_vs_rev g1; rwa [List.reverse_reverse] at this
  have hlen : u1.reverse.length = n := by rw [rn_vs_len hav]; exact hn
  obtain ⟨a', ha', k0, us, h0, hus⟩ := hW.1.2.2 _ _ ho
  cases ha.symm.trans ha'
  obtain ⟨hI0, hl, hi, hse, q, hq, hqc⟩ := hI
  have hM := hc ad ws tys (.ref a :: u1.reverse) H.size ⟨_, _, rfl, ⟨a, ha, rfl⟩, hav⟩ hW.1
  have hrc : ∃ cell : Cell, H[a]? = some cell ∧ cell.vm.isStatics = false ∧ s.vm.findClass N.1.cls = some cell.cls := by rw [← hqc]; exact va_recv hW.2.2.1 hW.2.1 hq h0
  have hcat : 2 * (F0 m pc la (u1 ++ .ref a :: rest)).monitorRoom + (rest.map fun v => v.category).sum ≤ 8 := lv_room (by rw [rn_vs_cats g2]; exact hrm)
  rcases hl with hl | ⟨host, hl⟩
  · exact rn_goon hC hW hL g2 hp h1 h2 (va_runV (b := a) (As := u1.reverse) (rest := rest) ⟨hC.1, hC.2.1, hC.2.2.1, hC.2.2.2.1, hC.2.2.2.2.1⟩ hM ⟨rn_callB hC.2.2.2.2.1 hI0 hl hf, hC.2.2.2.2.1 _ hi, hC.2.2.2.2.1 _ hse⟩ ⟨rn_blind, hrc, rn_pre hC hW⟩ rfl hlen hL.1 (by rw [List.reverse_reverse]) hcat hd ⟨(show cells + ca' ≤ mc by omega), (show slots + sa' ≤ ms by omega)⟩) k
  · exact rn_goon hC hW hL g2 hp h1 h2 (va_runVN (b := a) (As := u1.reverse) (rest := rest) ⟨hC.1, hC.2.1, hC.2.2.1, hC.2.2.2.1, hC.2.2.2.2.1⟩ hM ⟨rn_callN hC.2.2.2.2.1 hI0 hl hf, hC.2.2.2.2.1 _ hi, hC.2.2.2.2.1 _ hse⟩ ⟨rn_blind, hrc, rn_pre hC hW⟩ rfl hlen hL.1 (by rw [List.reverse_reverse]) hcat hd ⟨(show cells + ca' ≤ mc by omega), (show slots + sa' ≤ ms by omega)⟩) k
theorem rn_invS {idx n : Nat} {av : List Value} (hc : Call Z N av w ca' sa' r w1) (hI : rn_IS M.1.cls idx N n) (hf : rn_Fit M N) (hd : decode M.2.1 pc = .ok (.invokestatic idx, 3)) (hn : av.length = n) (hst : av.reverse ++ st = st0) (hrm : (st.map fun v => v.category).sum ≤ 8) (k : Rn Z M (pc + 3) ls (r.toList ++ st) w1 ca sa K) : Rn Z M pc ls st0 w (ca + ca') (sa + sa') K := by
  intro p e s m args below meth c H locs cells slots mc ms A ad0 ad ws tys la sta hC hW hL hS hp h1 h2
  subst hst
  obtain ⟨u1, rest, rfl, g1, g2⟩ := rn_vs_app hS
  have hav : rn_vs ad av u1.reverse := by have := rn_vs_rev g1; rwa [List.reverse_reverse] at this
  have hlen : u1.reverse.length = n := by rw [rn_vs_len hav]; exact hn
  obtain ⟨hI0, hl, hi⟩ := hI
  have hM := hc ad ws tys u1.reverse H.size hav hW.1
  have hcat : 2 * (F0 m pc la (u1 ++ rest)).monitorRoom + (rest.map fun v => v.category).sum ≤ 8 := lv_room (by rw [rn_vs_cats g2]; exact hrm)
  rcases hl with hl | ⟨host, hl⟩
  · exact rn_goon hC hW hL g2 hp h1 h2 (va_runS (As := u1.reverse) (rest := rest) ⟨hC.1, hC.2.1, hC.2.2.1, hC.2.2.2.1, hC.2.2.2.2.1⟩ hM ⟨rn_callB hC.2.2.2.2.1 hI0 hl hf, hC.2.2.2.2.1 _ hi⟩ ⟨rn_blind, rn_pre hC hW⟩ rfl hlen hL.1 (by rw [List.reverse_reverse]) hcat hd ⟨(show cells + ca' ≤ mc by omega), (show slots + sa' ≤ ms by omega)⟩) k
  · exact rn_goon hC hW hL g2 hp h1 h2 (va_runSN (As := u1.reverse) (rest := rest) ⟨hC.1, hC.2.1, hC.2.2.1, hC.2.2.2.1, hC.2.2.2.2.1⟩ hM ⟨rn_callN hC.2.2.2.2.1 hI0 hl hf, hC.2.2.2.2.1 _ hi, trivial⟩ ⟨rn_blind, rn_pre hC hW⟩ rfl hlen hL.1 (by rw [List.reverse_reverse]) hcat hd ⟨(show cells + ca' ≤ mc by omega), (show slots + sa' ≤ ms by omega)⟩) k
theorem rn_invI {idx n ob : Nat} {av : List Value} (hc : Call Z N (.ref ob :: av) w ca' sa' none w1) (hI : rn_II M.1.cls idx N n) (hnr : N.2.2.2.1 = none) (hf : rn_Fit M N) (hd : decode M.2.1 pc = .ok (.invokespecial idx, 3)) (hn : av.length = n) (hst : av.reverse ++ .ref ob :: st = st0) (hrm : (st.map fun v => v.category).sum ≤ 8) (k : Rn Z M (pc + 3) ls st w1 ca sa K) : Rn Z M pc ls st0 w (ca + ca') (sa + sa') K := by
  intro p e s m args below meth c H locs cells slots mc ms A ad0 ad ws tys la sta hC hW hL hS hp h1 h2
  subst hst
  obtain ⟨u1, u2, rfl, g1, u, rest, rfl, ⟨a, ha, rfl⟩, g2⟩ := rn_vs_app hS
  have hav : rn_vs ad av u1.reverse := by have := rn_vs_rev g1; rwa [List.reverse_reverse] at this
  have hlen : u1.reverse.length = n := by rw [rn_vs_len hav]; exact hn
  obtain ⟨hI0, hl, hi, hnm⟩ := hI
  have hM := hc ad ws tys (.ref a :: u1.reverse) H.size ⟨_, _, rfl, ⟨a, ha, rfl⟩, hav⟩ hW.1
  have hcat : 2 * (F0 m pc la (u1 ++ .ref a :: rest)).monitorRoom + (rest.map fun v => v.category).sum ≤ 8 := lv_room (by rw [rn_vs_cats g2]; exact hrm)
  rcases hl with hl | ⟨host, hl⟩
  · have hB := rn_callB (R := rn_R M mc ms) (ca' := ca') (sa' := sa') hC.2.2.2.2.1 hI0 hl hf
    rw [hnr] at hB
    exact rn_goon (r := none) hC hW hL g2 hp h1 h2 (va_runI (b := a) (As := u1.reverse) (rest := rest) ⟨hC.1, hC.2.1, hC.2.2.1, hC.2.2.2.1, hC.2.2.2.2.1⟩ hM ⟨hB, hnm, hC.2.2.2.2.1 _ hi⟩ ⟨rn_blind, rn_pre hC hW⟩ rfl hlen hL.1 (by rw [List.reverse_reverse]) hcat hd ⟨(show cells + ca' ≤ mc by omega), (show slots + sa' ≤ ms by omega)⟩) k
  · have hB := rn_callN (R := rn_R M mc ms) (ca' := ca') (sa' := sa') hC.2.2.2.2.1 hI0 hl hf
    rw [hnr] at hB
    exact rn_goon (r := none) hC hW hL g2 hp h1 h2 (va_runIN (b := a) (As := u1.reverse) (rest := rest) ⟨hC.1, hC.2.1, hC.2.2.1, hC.2.2.2.1, hC.2.2.2.2.1⟩ hM ⟨hB, hnm, hC.2.2.2.2.1 _ hi⟩ ⟨rn_blind, rn_pre hC hW⟩ rfl hlen hL.1 (by rw [List.reverse_reverse]) hcat hd ⟨(show cells + ca' ≤ mc by omega), (show slots + sa' ≤ ms by omega)⟩) k
theorem rn_mmin {idx : Nat} {x y : Int32} (hl : Cond.methodLink M.1.cls idx Lib.Math.min.name ∈ rn_tb) (hs : Cond.static Lib.Math.min.name ∈ rn_tb) (hi : Cond.initialized "java/lang/Math" ∈ rn_tb) (hc : Cond.code Lib.Math.min.name Lib.Math.min.code 2 (some .int) ∈ rn_tb) (hd : decode M.2.1 pc = .ok (.invokestatic idx, 3)) (hf : 1 ≤ M.2.2.2.2.1) (hr : (st.map fun v => v.category).sum + 13 ≤ M.2.2.2.2.2) (k : Rn Z M (pc + 3) ls (.int (if y < x then y else x) :: st) w ca sa K) : Rn Z M pc ls (.int y :: .int x :: st) w ca sa K := by
  intro p e s m args below meth c H locs cells slots mc ms A ad0 ad ws tys la sta hC hW hL hS hp h1 h2
  obtain ⟨_, _, rfl, rfl, _, us, rfl, rfl, hS⟩ := hS
  have hcat := rn_vs_cats hS
  exact va_mmin hC.1 hC.2.1 (hC.2.2.1.trans hL.1.symm) hC.2.2.2.1 (hC.2.2.2.2.1 _ hl) (hC.2.2.2.2.1 _ hs) (hC.2.2.2.2.1 _ hi) (hC.2.2.2.2.1 _ hc) hf (show (us.map fun v => v.category).sum + 13 ≤ M.2.2.2.2.2 by rw [hcat]; exact hr) (show cells ≤ mc by omega) (show slots ≤ ms by omega) hd (k.go hC hW hL ⟨_, _, rfl, rfl, hS⟩ hp h1 h2)
theorem rn_invV0 {idx n ci ob : Nat} {av : List Value} {fs : List Value} (hc : Call Z N (.ref ob :: av) w 0 0 r w1) (hI : rn_IV M.1.cls idx N n ci) (hf : rn_Fit M N) (hd : decode M.2.1 pc = .ok (.invokevirtual idx, 3)) (ho : w[ob]? = some (rn_o ci fs)) (hn : av.length = n) (hst : av.reverse ++ .ref ob :: st = st0) (hrm : (st.map fun v => v.category).sum ≤ 8) (k : Rn Z M (pc + 3) ls (r.toList ++ st) w1 ca sa K) : Rn Z M pc ls st0 w ca sa K := rn_invV hc hI hf hd ho hn hst hrm k
theorem rn_invS0 {idx n : Nat} {av : List Value} (hc : Call Z N av w 0 0 r w1) (hI : rn_IS M.1.cls idx N n) (hf : rn_Fit M N) (hd : decode M.2.1 pc = .ok (.invokestatic idx, 3)) (hn : av.length = n) (hst : av.reverse ++ st = st0) (hrm : (st.map fun v => v.category).sum ≤ 8) (k : Rn Z M (pc + 3) ls (r.toList ++ st) w1 ca sa K) : Rn Z M pc ls st0 w ca sa K := rn_invS hc hI hf hd hn hst hrm k
end
/-! a world under other numbers: new number j is the old number is[j] -/
def rn_mv (is : List Nat) : Value → Value
  | .ref j => match is[j]? with
    | some i => .ref i
    | none => .float 0
  | v => v
def rn_mr (is : List Nat) : Option Nat → Option (Option Nat)
  | none => some none
  | some j => match is[j]? with
    | some i => some (some i)
    | none => none
def rn_mc (is : List Nat) : rn_C → rn_C
  | .inr (.inr (.inr (.inl (ci, fs)))) => rn_o ci (fs.map (rn_mv is))
  | .inr (.inr (.inl (ty, l))) => rn_q ty (l.map fun x => match x with
    | none => none
    | some j => some (is.getD j 0))
  | c => c
theorem rn_mv_ok {is ad ad' : List Nat} (hg : ∀ (j i a : Nat), is[j]? = some i → ad[i]? = some a → ad'[j]? = some a) {v u : Value} (h : rn_v ad (rn_mv is v) u) : rn_v ad' v u := by
  cases v with
  | ref j =>
    cases hj : is[j]? with
    | none =>
      have e : rn_mv is (.ref j) = .float 0 := by simp [rn_mv, hj]
      rw [e] at h
      exact h.elim
    | some i =>
      have e : rn_mv is (.ref j) = .ref i := by simp [rn_mv, hj]
      rw [e] at h
      obtain ⟨a, h1, h2⟩ := h
      exact ⟨a, hg j i a hj h1, h2⟩
  | _ => exact h
theorem rn_mvs_ok {is ad ad' : List Nat} (hg : ∀ (j i a : Nat), is[j]? = some i → ad[i]? = some a → ad'[j]? = some a) : ∀ {vs us : List Value}, rn_vs ad (vs.map (rn_mv is)) us → rn_vs ad' vs us
  | [], _, h => h
  | _ :: _, _, ⟨u, us', h1, h2, h3⟩ => ⟨u, us', h1, rn_mv_ok hg h2, rn_mvs_ok hg h3⟩
end
section
set_option maxRecDepth 100000 in
theorem cl_Wt : rn_Cl 0 "WeightedTrees" T_Wt 7 ty_Wt := by
  refine ⟨rfl, fun x hx => ?_, by decide +kernel, by decide +kernel⟩
  obtain ⟨k, hk, rfl⟩ := List.mem_map.mp hx
  have hk := List.mem_range.mp hk
  rcases k with _ | k
  · exact (rn_in 194 rfl rfl)
  rcases k with _ | k
  · exact (rn_in 196 rfl rfl)
  rcases k with _ | k
  · exact (rn_in 198 rfl rfl)
  rcases k with _ | k
  · exact (rn_in 200 rfl rfl)
  rcases k with _ | k
  · exact (rn_in 202 rfl rfl)
  rcases k with _ | k
  · exact (rn_in 204 rfl rfl)
  rcases k with _ | k
  · exact (rn_in 206 rfl rfl)
  omega
set_option maxRecDepth 100000 in
theorem cl_Dr : rn_Cl 1 "WeightedTrees$Draft" T_Dr 2 ty_Dr := by
  refine ⟨rfl, fun x hx => ?_, by decide +kernel, by decide +kernel⟩
  obtain ⟨k, hk, rfl⟩ := List.mem_map.mp hx
  have hk := List.mem_range.mp hk
  rcases k with _ | k
  · exact (rn_in 36 rfl rfl)
  rcases k with _ | k
  · exact (rn_in 38 rfl rfl)
  omega
set_option maxRecDepth 100000 in
theorem cl_Ch : rn_Cl 2 "WeightedTrees$Chart" T_Ch 10 ty_Ch := by
  refine ⟨rfl, fun x hx => ?_, by decide +kernel, by decide +kernel⟩
  obtain ⟨k, hk, rfl⟩ := List.mem_map.mp hx
  have hk := List.mem_range.mp hk
  rcases k with _ | k
  · exact (rn_in 67 rfl rfl)
  rcases k with _ | k
  · exact (rn_in 69 rfl rfl)
  rcases k with _ | k
  · exact (rn_in 71 rfl rfl)
  rcases k with _ | k
  · exact (rn_in 73 rfl rfl)
  rcases k with _ | k
  · exact (rn_in 75 rfl rfl)
  rcases k with _ | k
  · exact (rn_in 77 rfl rfl)
  rcases k with _ | k
  · exact (rn_in 79 rfl rfl)
  rcases k with _ | k
  · exact (rn_in 81 rfl rfl)
  rcases k with _ | k
  · exact (rn_in 83 rfl rfl)
  rcases k with _ | k
  · exact (rn_in 85 rfl rfl)
  omega
set_option maxRecDepth 100000 in
theorem cl_Ut : rn_Cl 3 "WeightedTrees$UnitTable" T_Ut 1 ty_Ut := by
  refine ⟨rfl, fun x hx => ?_, by decide +kernel, by decide +kernel⟩
  obtain ⟨k, hk, rfl⟩ := List.mem_map.mp hx
  have hk := List.mem_range.mp hk
  rcases k with _ | k
  · exact (rn_in 97 rfl rfl)
  omega
set_option maxRecDepth 100000 in
theorem cl_Tl : rn_Cl 4 "WeightedTrees$TreeListing" T_Tl 5 ty_Tl := by
  refine ⟨rfl, fun x hx => ?_, by decide +kernel, by decide +kernel⟩
  obtain ⟨k, hk, rfl⟩ := List.mem_map.mp hx
  have hk := List.mem_range.mp hk
  rcases k with _ | k
  · exact (rn_in 115 rfl rfl)
  rcases k with _ | k
  · exact (rn_in 117 rfl rfl)
  rcases k with _ | k
  · exact (rn_in 119 rfl rfl)
  rcases k with _ | k
  · exact (rn_in 121 rfl rfl)
  rcases k with _ | k
  · exact (rn_in 123 rfl rfl)
  omega
set_option maxRecDepth 100000 in
theorem cl_Gr : rn_Cl 5 "WeightedTrees$Grammar" T_Gr 10 ty_Gr := by
  refine ⟨rfl, fun x hx => ?_, by decide +kernel, by decide +kernel⟩
  obtain ⟨k, hk, rfl⟩ := List.mem_map.mp hx
  have hk := List.mem_range.mp hk
  rcases k with _ | k
  · exact (rn_in 166 rfl rfl)
  rcases k with _ | k
  · exact (rn_in 168 rfl rfl)
  rcases k with _ | k
  · exact (rn_in 170 rfl rfl)
  rcases k with _ | k
  · exact (rn_in 172 rfl rfl)
  rcases k with _ | k
  · exact (rn_in 174 rfl rfl)
  rcases k with _ | k
  · exact (rn_in 176 rfl rfl)
  rcases k with _ | k
  · exact (rn_in 178 rfl rfl)
  rcases k with _ | k
  · exact (rn_in 180 rfl rfl)
  rcases k with _ | k
  · exact (rn_in 182 rfl rfl)
  rcases k with _ | k
  · exact (rn_in 184 rfl rfl)
  omega
set_option maxRecDepth 100000 in
theorem cl_Rd : rn_Cl 6 "WeightedTrees$GrammarReader" T_Rd 4 ty_Rd := by
  refine ⟨rfl, fun x hx => ?_, by decide +kernel, by decide +kernel⟩
  obtain ⟨k, hk, rfl⟩ := List.mem_map.mp hx
  have hk := List.mem_range.mp hk
  rcases k with _ | k
  · exact (rn_in 263 rfl rfl)
  rcases k with _ | k
  · exact (rn_in 265 rfl rfl)
  rcases k with _ | k
  · exact (rn_in 267 rfl rfl)
  rcases k with _ | k
  · exact (rn_in 269 rfl rfl)
  omega
set_option maxRecDepth 100000 in
theorem cl_Md : rn_Cl 7 "WeightedTreesModel" T_Md 35 ty_Md := by
  refine ⟨rfl, fun x hx => ?_, by decide +kernel, by decide +kernel⟩
  obtain ⟨k, hk, rfl⟩ := List.mem_map.mp hx
  have hk := List.mem_range.mp hk
  rcases k with _ | k
  · exact (rn_in 711 rfl rfl)
  rcases k with _ | k
  · exact (rn_in 713 rfl rfl)
  rcases k with _ | k
  · exact (rn_in 715 rfl rfl)
  rcases k with _ | k
  · exact (rn_in 717 rfl rfl)
  rcases k with _ | k
  · exact (rn_in 719 rfl rfl)
  rcases k with _ | k
  · exact (rn_in 721 rfl rfl)
  rcases k with _ | k
  · exact (rn_in 723 rfl rfl)
  rcases k with _ | k
  · exact (rn_in 725 rfl rfl)
  rcases k with _ | k
  · exact (rn_in 727 rfl rfl)
  rcases k with _ | k
  · exact (rn_in 729 rfl rfl)
  rcases k with _ | k
  · exact (rn_in 731 rfl rfl)
  rcases k with _ | k
  · exact (rn_in 733 rfl rfl)
  rcases k with _ | k
  · exact (rn_in 735 rfl rfl)
  rcases k with _ | k
  · exact (rn_in 737 rfl rfl)
  rcases k with _ | k
  · exact (rn_in 739 rfl rfl)
  rcases k with _ | k
  · exact (rn_in 741 rfl rfl)
  rcases k with _ | k
  · exact (rn_in 743 rfl rfl)
  rcases k with _ | k
  · exact (rn_in 745 rfl rfl)
  rcases k with _ | k
  · exact (rn_in 747 rfl rfl)
  rcases k with _ | k
  · exact (rn_in 749 rfl rfl)
  rcases k with _ | k
  · exact (rn_in 751 rfl rfl)
  rcases k with _ | k
  · exact (rn_in 753 rfl rfl)
  rcases k with _ | k
  · exact (rn_in 755 rfl rfl)
  rcases k with _ | k
  · exact (rn_in 757 rfl rfl)
  rcases k with _ | k
  · exact (rn_in 759 rfl rfl)
  rcases k with _ | k
  · exact (rn_in 761 rfl rfl)
  rcases k with _ | k
  · exact (rn_in 763 rfl rfl)
  rcases k with _ | k
  · exact (rn_in 765 rfl rfl)
  rcases k with _ | k
  · exact (rn_in 767 rfl rfl)
  rcases k with _ | k
  · exact (rn_in 769 rfl rfl)
  rcases k with _ | k
  · exact (rn_in 771 rfl rfl)
  rcases k with _ | k
  · exact (rn_in 773 rfl rfl)
  rcases k with _ | k
  · exact (rn_in 775 rfl rfl)
  rcases k with _ | k
  · exact (rn_in 777 rfl rfl)
  rcases k with _ | k
  · exact (rn_in 779 rfl rfl)
  omega
set_option maxRecDepth 100000 in
theorem fd_Wt_10 : rn_Fd "WeightedTrees" 10 0 0 true (.object "WeightedTrees$Draft") := ⟨_, _, _, _, cl_Wt, by decide, Or.inl (rn_in 187 rfl rfl), rfl, rfl⟩
set_option maxRecDepth 100000 in
theorem ff_Wt_10 : rn_Ff "WeightedTrees" 10 0 0 (.object "WeightedTrees$Draft") := ⟨_, _, _, _, cl_Wt, by decide, (rn_in 187 rfl rfl), rfl, rfl, rfl⟩
set_option maxRecDepth 100000 in
theorem fd_Wt_19 : rn_Fd "WeightedTrees" 19 0 1 true (.object "WeightedTrees$Chart") := ⟨_, _, _, _, cl_Wt, by decide, Or.inl (rn_in 188 rfl rfl), rfl, rfl⟩
set_option maxRecDepth 100000 in
theorem ff_Wt_19 : rn_Ff "WeightedTrees" 19 0 1 (.object "WeightedTrees$Chart") := ⟨_, _, _, _, cl_Wt, by decide, (rn_in 188 rfl rfl), rfl, rfl, rfl⟩
set_option maxRecDepth 100000 in
theorem fd_Wt_26 : rn_Fd "WeightedTrees" 26 0 2 true (.object "WeightedTrees$UnitTable") := ⟨_, _, _, _, cl_Wt, by decide, Or.inl (rn_in 189 rfl rfl), rfl, rfl⟩
set_option maxRecDepth 100000 in
theorem ff_Wt_26 : rn_Ff "WeightedTrees" 26 0 2 (.object "WeightedTrees$UnitTable") := ⟨_, _, _, _, cl_Wt, by decide, (rn_in 189 rfl rfl), rfl, rfl, rfl⟩
set_option maxRecDepth 100000 in
theorem fd_Wt_33 : rn_Fd "WeightedTrees" 33 0 3 true (.object "WeightedTrees$TreeListing") := ⟨_, _, _, _, cl_Wt, by decide, Or.inl (rn_in 190 rfl rfl), rfl, rfl⟩
set_option maxRecDepth 100000 in
theorem ff_Wt_33 : rn_Ff "WeightedTrees" 33 0 3 (.object "WeightedTrees$TreeListing") := ⟨_, _, _, _, cl_Wt, by decide, (rn_in 190 rfl rfl), rfl, rfl, rfl⟩
set_option maxRecDepth 100000 in
theorem fd_Wt_40 : rn_Fd "WeightedTrees" 40 0 4 false (.object "WeightedTrees$Grammar") := ⟨_, _, _, _, cl_Wt, by decide, Or.inl (rn_in 191 rfl rfl), rfl, rfl⟩
set_option maxRecDepth 100000 in
theorem fd_Wt_44 : rn_Fd "WeightedTrees" 44 0 5 false (.object "WeightedTrees$Grammar") := ⟨_, _, _, _, cl_Wt, by decide, Or.inl (rn_in 192 rfl rfl), rfl, rfl⟩
set_option maxRecDepth 100000 in
theorem fd_Wt_47 : rn_Fd "WeightedTrees" 47 0 6 false .int := ⟨_, _, _, _, cl_Wt, by decide, Or.inl (rn_in 193 rfl rfl), rfl, rfl⟩
set_option maxRecDepth 100000 in
theorem fd_Ch_11 : rn_Fd "WeightedTrees$Chart" 11 2 0 true (.array .long) := ⟨_, _, _, _, cl_Ch, by decide, Or.inl (rn_in 52 rfl rfl), rfl, rfl⟩
set_option maxRecDepth 100000 in
theorem ff_Ch_11 : rn_Ff "WeightedTrees$Chart" 11 2 0 (.array .long) := ⟨_, _, _, _, cl_Ch, by decide, (rn_in 52 rfl rfl), rfl, rfl, rfl⟩
set_option maxRecDepth 100000 in
theorem fd_Ch_15 : rn_Fd "WeightedTrees$Chart" 15 2 1 true (.array .int) := ⟨_, _, _, _, cl_Ch, by decide, Or.inl (rn_in 54 rfl rfl), rfl, rfl⟩
set_option maxRecDepth 100000 in
theorem ff_Ch_15 : rn_Ff "WeightedTrees$Chart" 15 2 1 (.array .int) := ⟨_, _, _, _, cl_Ch, by decide, (rn_in 54 rfl rfl), rfl, rfl, rfl⟩
set_option maxRecDepth 100000 in
theorem fd_Ch_19 : rn_Fd "WeightedTrees$Chart" 19 2 2 true (.array .int) := ⟨_, _, _, _, cl_Ch, by decide, Or.inl (rn_in 56 rfl rfl), rfl, rfl⟩
set_option maxRecDepth 100000 in
theorem ff_Ch_19 : rn_Ff "WeightedTrees$Chart" 19 2 2 (.array .int) := ⟨_, _, _, _, cl_Ch, by decide, (rn_in 56 rfl rfl), rfl, rfl, rfl⟩
set_option maxRecDepth 100000 in
theorem fd_Ch_22 : rn_Fd "WeightedTrees$Chart" 22 2 3 true (.array .int) := ⟨_, _, _, _, cl_Ch, by decide, Or.inl (rn_in 58 rfl rfl), rfl, rfl⟩
set_option maxRecDepth 100000 in
theorem ff_Ch_22 : rn_Ff "WeightedTrees$Chart" 22 2 3 (.array .int) := ⟨_, _, _, _, cl_Ch, by decide, (rn_in 58 rfl rfl), rfl, rfl, rfl⟩
set_option maxRecDepth 100000 in
theorem fd_Ch_25 : rn_Fd "WeightedTrees$Chart" 25 2 4 true (.array .int) := ⟨_, _, _, _, cl_Ch, by decide, Or.inl (rn_in 60 rfl rfl), rfl, rfl⟩
set_option maxRecDepth 100000 in
theorem ff_Ch_25 : rn_Ff "WeightedTrees$Chart" 25 2 4 (.array .int) := ⟨_, _, _, _, cl_Ch, by decide, (rn_in 60 rfl rfl), rfl, rfl, rfl⟩
set_option maxRecDepth 100000 in
theorem fd_Ch_28 : rn_Fd "WeightedTrees$Chart" 28 2 5 true (.array .char) := ⟨_, _, _, _, cl_Ch, by decide, Or.inl (rn_in 61 rfl rfl), rfl, rfl⟩
set_option maxRecDepth 100000 in
theorem ff_Ch_28 : rn_Ff "WeightedTrees$Chart" 28 2 5 (.array .char) := ⟨_, _, _, _, cl_Ch, by decide, (rn_in 61 rfl rfl), rfl, rfl, rfl⟩
set_option maxRecDepth 100000 in
theorem fd_Ch_32 : rn_Fd "WeightedTrees$Chart" 32 2 6 false .int := ⟨_, _, _, _, cl_Ch, by decide, Or.inl (rn_in 62 rfl rfl), rfl, rfl⟩
set_option maxRecDepth 100000 in
theorem fd_Ch_38 : rn_Fd "WeightedTrees$Chart" 38 2 7 true (.array (.array .long)) := ⟨_, _, _, _, cl_Ch, by decide, Or.inl (rn_in 64 rfl rfl), rfl, rfl⟩
set_option maxRecDepth 100000 in
theorem ff_Ch_38 : rn_Ff "WeightedTrees$Chart" 38 2 7 (.array (.array .long)) := ⟨_, _, _, _, cl_Ch, by decide, (rn_in 64 rfl rfl), rfl, rfl, rfl⟩
set_option maxRecDepth 100000 in
theorem fd_Ch_43 : rn_Fd "WeightedTrees$Chart" 43 2 8 true (.array (.array .int)) := ⟨_, _, _, _, cl_Ch, by decide, Or.inl (rn_in 65 rfl rfl), rfl, rfl⟩
set_option maxRecDepth 100000 in
theorem ff_Ch_43 : rn_Ff "WeightedTrees$Chart" 43 2 8 (.array (.array .int)) := ⟨_, _, _, _, cl_Ch, by decide, (rn_in 65 rfl rfl), rfl, rfl, rfl⟩
set_option maxRecDepth 100000 in
theorem fd_Ch_46 : rn_Fd "WeightedTrees$Chart" 46 2 9 true (.array (.array .int)) := ⟨_, _, _, _, cl_Ch, by decide, Or.inl (rn_in 66 rfl rfl), rfl, rfl⟩
set_option maxRecDepth 100000 in
theorem ff_Ch_46 : rn_Ff "WeightedTrees$Chart" 46 2 9 (.array (.array .int)) := ⟨_, _, _, _, cl_Ch, by decide, (rn_in 66 rfl rfl), rfl, rfl, rfl⟩
set_option maxRecDepth 100000 in
theorem fd_Ch_53 : rn_Fd "WeightedTrees$Chart" 53 1 1 false .int := ⟨_, _, _, _, cl_Dr, by decide, Or.inl (rn_in 35 rfl rfl), rfl, rfl⟩
set_option maxRecDepth 100000 in
theorem fd_Ch_58 : rn_Fd "WeightedTrees$Chart" 58 1 0 true (.array .char) := ⟨_, _, _, _, cl_Dr, by decide, Or.inl (rn_in 32 rfl rfl), rfl, rfl⟩
set_option maxRecDepth 100000 in
theorem fd_Ch_65 : rn_Fd "WeightedTrees$Chart" 65 5 8 false .int := ⟨_, _, _, _, cl_Gr, by decide, Or.inl (rn_in 164 rfl rfl), rfl, rfl⟩
set_option maxRecDepth 100000 in
theorem fd_Ch_70 : rn_Fd "WeightedTrees$Chart" 70 5 7 false .int := ⟨_, _, _, _, cl_Gr, by decide, Or.inl (rn_in 160 rfl rfl), rfl, rfl⟩
set_option maxRecDepth 100000 in
theorem fd_Ch_73 : rn_Fd "WeightedTrees$Chart" 73 5 0 true (.array .int) := ⟨_, _, _, _, cl_Gr, by decide, Or.inl (rn_in 135 rfl rfl), rfl, rfl⟩
set_option maxRecDepth 100000 in
theorem fd_Ch_76 : rn_Fd "WeightedTrees$Chart" 76 5 6 true (.array .int) := ⟨_, _, _, _, cl_Gr, by decide, Or.inl (rn_in 155 rfl rfl), rfl, rfl⟩
set_option maxRecDepth 100000 in
theorem fd_Ch_86 : rn_Fd "WeightedTrees$Chart" 86 5 3 true (.array .long) := ⟨_, _, _, _, cl_Gr, by decide, Or.inl (rn_in 147 rfl rfl), rfl, rfl⟩
set_option maxRecDepth 100000 in
theorem fd_Ch_89 : rn_Fd "WeightedTrees$Chart" 89 5 4 true (.array .int) := ⟨_, _, _, _, cl_Gr, by decide, Or.inl (rn_in 150 rfl rfl), rfl, rfl⟩
set_option maxRecDepth 100000 in
theorem fd_Ch_93 : rn_Fd "WeightedTrees$Chart" 93 5 2 true (.array .int) := ⟨_, _, _, _, cl_Gr, by decide, Or.inl (rn_in 142 rfl rfl), rfl, rfl⟩
set_option maxRecDepth 100000 in
theorem fd_Dr_9 : rn_Fd "WeightedTrees$Draft" 9 1 0 true (.array .char) := ⟨_, _, _, _, cl_Dr, by decide, Or.inl (rn_in 31 rfl rfl), rfl, rfl⟩
set_option maxRecDepth 100000 in
theorem ff_Dr_9 : rn_Ff "WeightedTrees$Draft" 9 1 0 (.array .char) := ⟨_, _, _, _, cl_Dr, by decide, (rn_in 31 rfl rfl), rfl, rfl, rfl⟩
set_option maxRecDepth 100000 in
theorem fd_Dr_15 : rn_Fd "WeightedTrees$Draft" 15 1 1 false .int := ⟨_, _, _, _, cl_Dr, by decide, Or.inl (rn_in 34 rfl rfl), rfl, rfl⟩
set_option maxRecDepth 100000 in
theorem fd_Gr_9 : rn_Fd "WeightedTrees$Grammar" 9 5 0 true (.array .int) := ⟨_, _, _, _, cl_Gr, by decide, Or.inl (rn_in 132 rfl rfl), rfl, rfl⟩
set_option maxRecDepth 100000 in
theorem ff_Gr_9 : rn_Ff "WeightedTrees$Grammar" 9 5 0 (.array .int) := ⟨_, _, _, _, cl_Gr, by decide, (rn_in 132 rfl rfl), rfl, rfl, rfl⟩
set_option maxRecDepth 100000 in
theorem fd_Gr_15 : rn_Fd "WeightedTrees$Grammar" 15 5 1 true (.array .int) := ⟨_, _, _, _, cl_Gr, by decide, Or.inl (rn_in 136 rfl rfl), rfl, rfl⟩
set_option maxRecDepth 100000 in
theorem ff_Gr_15 : rn_Ff "WeightedTrees$Grammar" 15 5 1 (.array .int) := ⟨_, _, _, _, cl_Gr, by decide, (rn_in 136 rfl rfl), rfl, rfl, rfl⟩
set_option maxRecDepth 100000 in
theorem fd_Gr_18 : rn_Fd "WeightedTrees$Grammar" 18 5 2 true (.array .int) := ⟨_, _, _, _, cl_Gr, by decide, Or.inl (rn_in 138 rfl rfl), rfl, rfl⟩
set_option maxRecDepth 100000 in
theorem ff_Gr_18 : rn_Ff "WeightedTrees$Grammar" 18 5 2 (.array .int) := ⟨_, _, _, _, cl_Gr, by decide, (rn_in 138 rfl rfl), rfl, rfl, rfl⟩
set_option maxRecDepth 100000 in
theorem fd_Gr_21 : rn_Fd "WeightedTrees$Grammar" 21 5 3 true (.array .long) := ⟨_, _, _, _, cl_Gr, by decide, Or.inl (rn_in 143 rfl rfl), rfl, rfl⟩
set_option maxRecDepth 100000 in
theorem ff_Gr_21 : rn_Ff "WeightedTrees$Grammar" 21 5 3 (.array .long) := ⟨_, _, _, _, cl_Gr, by decide, (rn_in 143 rfl rfl), rfl, rfl, rfl⟩
set_option maxRecDepth 100000 in
theorem fd_Gr_25 : rn_Fd "WeightedTrees$Grammar" 25 5 4 true (.array .int) := ⟨_, _, _, _, cl_Gr, by decide, Or.inl (rn_in 148 rfl rfl), rfl, rfl⟩
set_option maxRecDepth 100000 in
theorem ff_Gr_25 : rn_Ff "WeightedTrees$Grammar" 25 5 4 (.array .int) := ⟨_, _, _, _, cl_Gr, by decide, (rn_in 148 rfl rfl), rfl, rfl, rfl⟩
set_option maxRecDepth 100000 in
theorem fd_Gr_28 : rn_Fd "WeightedTrees$Grammar" 28 5 5 true (.array .int) := ⟨_, _, _, _, cl_Gr, by decide, Or.inl (rn_in 151 rfl rfl), rfl, rfl⟩
set_option maxRecDepth 100000 in
theorem ff_Gr_28 : rn_Ff "WeightedTrees$Grammar" 28 5 5 (.array .int) := ⟨_, _, _, _, cl_Gr, by decide, (rn_in 151 rfl rfl), rfl, rfl, rfl⟩
set_option maxRecDepth 100000 in
theorem fd_Gr_31 : rn_Fd "WeightedTrees$Grammar" 31 5 6 true (.array .int) := ⟨_, _, _, _, cl_Gr, by decide, Or.inl (rn_in 153 rfl rfl), rfl, rfl⟩
set_option maxRecDepth 100000 in
theorem ff_Gr_31 : rn_Ff "WeightedTrees$Grammar" 31 5 6 (.array .int) := ⟨_, _, _, _, cl_Gr, by decide, (rn_in 153 rfl rfl), rfl, rfl, rfl⟩
set_option maxRecDepth 100000 in
theorem fd_Gr_34 : rn_Fd "WeightedTrees$Grammar" 34 5 7 false .int := ⟨_, _, _, _, cl_Gr, by decide, Or.inl (rn_in 156 rfl rfl), rfl, rfl⟩
set_option maxRecDepth 100000 in
theorem fd_Gr_38 : rn_Fd "WeightedTrees$Grammar" 38 5 8 false .int := ⟨_, _, _, _, cl_Gr, by decide, Or.inl (rn_in 161 rfl rfl), rfl, rfl⟩
set_option maxRecDepth 100000 in
theorem fd_Gr_41 : rn_Fd "WeightedTrees$Grammar" 41 5 9 true (.array .int) := ⟨_, _, _, _, cl_Gr, by decide, Or.inl (rn_in 165 rfl rfl), rfl, rfl⟩
set_option maxRecDepth 100000 in
theorem ff_Gr_41 : rn_Ff "WeightedTrees$Grammar" 41 5 9 (.array .int) := ⟨_, _, _, _, cl_Gr, by decide, (rn_in 165 rfl rfl), rfl, rfl, rfl⟩
set_option maxRecDepth 100000 in
theorem fd_Rd_9 : rn_Fd "WeightedTrees$GrammarReader" 9 6 0 true (.object "WeightedTrees$Draft") := ⟨_, _, _, _, cl_Rd, by decide, Or.inl (rn_in 259 rfl rfl), rfl, rfl⟩
set_option maxRecDepth 100000 in
theorem fd_Rd_15 : rn_Fd "WeightedTrees$GrammarReader" 15 6 1 true (.object "WeightedTrees$Grammar") := ⟨_, _, _, _, cl_Rd, by decide, Or.inl (rn_in 260 rfl rfl), rfl, rfl⟩
set_option maxRecDepth 100000 in
theorem fd_Rd_19 : rn_Fd "WeightedTrees$GrammarReader" 19 6 2 false .int := ⟨_, _, _, _, cl_Rd, by decide, Or.inl (rn_in 261 rfl rfl), rfl, rfl⟩
set_option maxRecDepth 100000 in
theorem fd_Rd_23 : rn_Fd "WeightedTrees$GrammarReader" 23 6 3 false .int := ⟨_, _, _, _, cl_Rd, by decide, Or.inl (rn_in 262 rfl rfl), rfl, rfl⟩
set_option maxRecDepth 100000 in
theorem fd_Rd_48 : rn_Fd "WeightedTrees$GrammarReader" 48 5 7 false .int := ⟨_, _, _, _, cl_Gr, by decide, Or.inl (rn_in 157 rfl rfl), rfl, rfl⟩
set_option maxRecDepth 100000 in
theorem fd_Rd_77 : rn_Fd "WeightedTrees$GrammarReader" 77 5 0 true (.array .int) := ⟨_, _, _, _, cl_Gr, by decide, Or.inl (rn_in 134 rfl rfl), rfl, rfl⟩
set_option maxRecDepth 100000 in
theorem fd_Rd_87 : rn_Fd "WeightedTrees$GrammarReader" 87 5 1 true (.array .int) := ⟨_, _, _, _, cl_Gr, by decide, Or.inl (rn_in 137 rfl rfl), rfl, rfl⟩
set_option maxRecDepth 100000 in
theorem fd_Rd_90 : rn_Fd "WeightedTrees$GrammarReader" 90 5 2 true (.array .int) := ⟨_, _, _, _, cl_Gr, by decide, Or.inl (rn_in 141 rfl rfl), rfl, rfl⟩
set_option maxRecDepth 100000 in
theorem fd_Rd_99 : rn_Fd "WeightedTrees$GrammarReader" 99 5 3 true (.array .long) := ⟨_, _, _, _, cl_Gr, by decide, Or.inl (rn_in 145 rfl rfl), rfl, rfl⟩
set_option maxRecDepth 100000 in
theorem fd_Rd_107 : rn_Fd "WeightedTrees$GrammarReader" 107 5 4 true (.array .int) := ⟨_, _, _, _, cl_Gr, by decide, Or.inl (rn_in 149 rfl rfl), rfl, rfl⟩
set_option maxRecDepth 100000 in
theorem fd_Rd_112 : rn_Fd "WeightedTrees$GrammarReader" 112 1 0 true (.array .char) := ⟨_, _, _, _, cl_Dr, by decide, Or.inl (rn_in 33 rfl rfl), rfl, rfl⟩
set_option maxRecDepth 100000 in
theorem fd_Tl_9 : rn_Fd "WeightedTrees$TreeListing" 9 4 0 true (.array .int) := ⟨_, _, _, _, cl_Tl, by decide, Or.inl (rn_in 106 rfl rfl), rfl, rfl⟩
set_option maxRecDepth 100000 in
theorem ff_Tl_9 : rn_Ff "WeightedTrees$TreeListing" 9 4 0 (.array .int) := ⟨_, _, _, _, cl_Tl, by decide, (rn_in 106 rfl rfl), rfl, rfl, rfl⟩
set_option maxRecDepth 100000 in
theorem fd_Tl_15 : rn_Fd "WeightedTrees$TreeListing" 15 4 1 true (.array .int) := ⟨_, _, _, _, cl_Tl, by decide, Or.inl (rn_in 108 rfl rfl), rfl, rfl⟩
set_option maxRecDepth 100000 in
theorem ff_Tl_15 : rn_Ff "WeightedTrees$TreeListing" 15 4 1 (.array .int) := ⟨_, _, _, _, cl_Tl, by decide, (rn_in 108 rfl rfl), rfl, rfl, rfl⟩
set_option maxRecDepth 100000 in
theorem fd_Tl_18 : rn_Fd "WeightedTrees$TreeListing" 18 4 2 true (.array .int) := ⟨_, _, _, _, cl_Tl, by decide, Or.inl (rn_in 110 rfl rfl), rfl, rfl⟩
set_option maxRecDepth 100000 in
theorem ff_Tl_18 : rn_Ff "WeightedTrees$TreeListing" 18 4 2 (.array .int) := ⟨_, _, _, _, cl_Tl, by decide, (rn_in 110 rfl rfl), rfl, rfl, rfl⟩
set_option maxRecDepth 100000 in
theorem fd_Tl_21 : rn_Fd "WeightedTrees$TreeListing" 21 4 3 true (.array .int) := ⟨_, _, _, _, cl_Tl, by decide, Or.inl (rn_in 112 rfl rfl), rfl, rfl⟩
set_option maxRecDepth 100000 in
theorem ff_Tl_21 : rn_Ff "WeightedTrees$TreeListing" 21 4 3 (.array .int) := ⟨_, _, _, _, cl_Tl, by decide, (rn_in 112 rfl rfl), rfl, rfl, rfl⟩
set_option maxRecDepth 100000 in
theorem fd_Tl_24 : rn_Fd "WeightedTrees$TreeListing" 24 4 4 false .int := ⟨_, _, _, _, cl_Tl, by decide, Or.inl (rn_in 113 rfl rfl), rfl, rfl⟩
set_option maxRecDepth 100000 in
theorem fd_Tl_34 : rn_Fd "WeightedTrees$TreeListing" 34 2 3 true (.array .int) := ⟨_, _, _, _, cl_Ch, by decide, Or.inl (rn_in 59 rfl rfl), rfl, rfl⟩
set_option maxRecDepth 100000 in
theorem fd_Tl_55 : rn_Fd "WeightedTrees$TreeListing" 55 2 2 true (.array .int) := ⟨_, _, _, _, cl_Ch, by decide, Or.inl (rn_in 57 rfl rfl), rfl, rfl⟩
set_option maxRecDepth 100000 in
theorem fd_Tl_56 : rn_Fd "WeightedTrees$TreeListing" 56 5 2 true (.array .int) := ⟨_, _, _, _, cl_Gr, by decide, Or.inl (rn_in 140 rfl rfl), rfl, rfl⟩
set_option maxRecDepth 100000 in
theorem fd_Ut_9 : rn_Fd "WeightedTrees$UnitTable" 9 3 0 true (.array .long) := ⟨_, _, _, _, cl_Ut, by decide, Or.inl (rn_in 96 rfl rfl), rfl, rfl⟩
set_option maxRecDepth 100000 in
theorem ff_Ut_9 : rn_Ff "WeightedTrees$UnitTable" 9 3 0 (.array .long) := ⟨_, _, _, _, cl_Ut, by decide, (rn_in 96 rfl rfl), rfl, rfl, rfl⟩
set_option maxRecDepth 100000 in
theorem fd_Ut_15 : rn_Fd "WeightedTrees$UnitTable" 15 5 8 false .int := ⟨_, _, _, _, cl_Gr, by decide, Or.inl (rn_in 162 rfl rfl), rfl, rfl⟩
set_option maxRecDepth 100000 in
theorem fd_Ut_21 : rn_Fd "WeightedTrees$UnitTable" 21 5 6 true (.array .int) := ⟨_, _, _, _, cl_Gr, by decide, Or.inl (rn_in 154 rfl rfl), rfl, rfl⟩
set_option maxRecDepth 100000 in
theorem fd_Ut_25 : rn_Fd "WeightedTrees$UnitTable" 25 5 7 false .int := ⟨_, _, _, _, cl_Gr, by decide, Or.inl (rn_in 158 rfl rfl), rfl, rfl⟩
set_option maxRecDepth 100000 in
theorem fd_Ut_28 : rn_Fd "WeightedTrees$UnitTable" 28 5 0 true (.array .int) := ⟨_, _, _, _, cl_Gr, by decide, Or.inl (rn_in 133 rfl rfl), rfl, rfl⟩
set_option maxRecDepth 100000 in
theorem fd_Ut_35 : rn_Fd "WeightedTrees$UnitTable" 35 5 2 true (.array .int) := ⟨_, _, _, _, cl_Gr, by decide, Or.inl (rn_in 139 rfl rfl), rfl, rfl⟩
set_option maxRecDepth 100000 in
theorem fd_Ut_46 : rn_Fd "WeightedTrees$UnitTable" 46 5 3 true (.array .long) := ⟨_, _, _, _, cl_Gr, by decide, Or.inl (rn_in 144 rfl rfl), rfl, rfl⟩
set_option maxRecDepth 100000 in
theorem fd_Md_7 : rn_Fd "WeightedTreesModel" 7 7 1 true (.array .int) := ⟨_, _, _, _, cl_Md, by decide, Or.inl (rn_in 677 rfl rfl), rfl, rfl⟩
set_option maxRecDepth 100000 in
theorem ff_Md_7 : rn_Ff "WeightedTreesModel" 7 7 1 (.array .int) := ⟨_, _, _, _, cl_Md, by decide, (rn_in 677 rfl rfl), rfl, rfl, rfl⟩
set_option maxRecDepth 100000 in
theorem fd_Md_13 : rn_Fd "WeightedTreesModel" 13 7 3 true (.array .int) := ⟨_, _, _, _, cl_Md, by decide, Or.inl (rn_in 679 rfl rfl), rfl, rfl⟩
set_option maxRecDepth 100000 in
theorem ff_Md_13 : rn_Ff "WeightedTreesModel" 13 7 3 (.array .int) := ⟨_, _, _, _, cl_Md, by decide, (rn_in 679 rfl rfl), rfl, rfl, rfl⟩
set_option maxRecDepth 100000 in
theorem fd_Md_16 : rn_Fd "WeightedTreesModel" 16 7 4 true (.array .int) := ⟨_, _, _, _, cl_Md, by decide, Or.inl (rn_in 680 rfl rfl), rfl, rfl⟩
set_option maxRecDepth 100000 in
theorem ff_Md_16 : rn_Ff "WeightedTreesModel" 16 7 4 (.array .int) := ⟨_, _, _, _, cl_Md, by decide, (rn_in 680 rfl rfl), rfl, rfl, rfl⟩
set_option maxRecDepth 100000 in
theorem fd_Md_19 : rn_Fd "WeightedTreesModel" 19 7 9 true (.array .int) := ⟨_, _, _, _, cl_Md, by decide, Or.inl (rn_in 685 rfl rfl), rfl, rfl⟩
set_option maxRecDepth 100000 in
theorem ff_Md_19 : rn_Ff "WeightedTreesModel" 19 7 9 (.array .int) := ⟨_, _, _, _, cl_Md, by decide, (rn_in 685 rfl rfl), rfl, rfl, rfl⟩
set_option maxRecDepth 100000 in
theorem fd_Md_22 : rn_Fd "WeightedTreesModel" 22 7 10 true (.array .int) := ⟨_, _, _, _, cl_Md, by decide, Or.inl (rn_in 686 rfl rfl), rfl, rfl⟩
set_option maxRecDepth 100000 in
theorem ff_Md_22 : rn_Ff "WeightedTreesModel" 22 7 10 (.array .int) := ⟨_, _, _, _, cl_Md, by decide, (rn_in 686 rfl rfl), rfl, rfl, rfl⟩
set_option maxRecDepth 100000 in
theorem fd_Md_25 : rn_Fd "WeightedTreesModel" 25 7 11 true (.array .int) := ⟨_, _, _, _, cl_Md, by decide, Or.inl (rn_in 687 rfl rfl), rfl, rfl⟩
set_option maxRecDepth 100000 in
theorem ff_Md_25 : rn_Ff "WeightedTreesModel" 25 7 11 (.array .int) := ⟨_, _, _, _, cl_Md, by decide, (rn_in 687 rfl rfl), rfl, rfl, rfl⟩
set_option maxRecDepth 100000 in
theorem fd_Md_28 : rn_Fd "WeightedTreesModel" 28 7 12 true (.array .long) := ⟨_, _, _, _, cl_Md, by decide, Or.inl (rn_in 688 rfl rfl), rfl, rfl⟩
set_option maxRecDepth 100000 in
theorem ff_Md_28 : rn_Ff "WeightedTreesModel" 28 7 12 (.array .long) := ⟨_, _, _, _, cl_Md, by decide, (rn_in 688 rfl rfl), rfl, rfl, rfl⟩
set_option maxRecDepth 100000 in
theorem fd_Md_32 : rn_Fd "WeightedTreesModel" 32 7 13 true (.array .int) := ⟨_, _, _, _, cl_Md, by decide, Or.inl (rn_in 689 rfl rfl), rfl, rfl⟩
set_option maxRecDepth 100000 in
theorem ff_Md_32 : rn_Ff "WeightedTreesModel" 32 7 13 (.array .int) := ⟨_, _, _, _, cl_Md, by decide, (rn_in 689 rfl rfl), rfl, rfl, rfl⟩
set_option maxRecDepth 100000 in
theorem fd_Md_35 : rn_Fd "WeightedTreesModel" 35 7 15 true (.array .int) := ⟨_, _, _, _, cl_Md, by decide, Or.inl (rn_in 691 rfl rfl), rfl, rfl⟩
set_option maxRecDepth 100000 in
theorem ff_Md_35 : rn_Ff "WeightedTreesModel" 35 7 15 (.array .int) := ⟨_, _, _, _, cl_Md, by decide, (rn_in 691 rfl rfl), rfl, rfl, rfl⟩
set_option maxRecDepth 100000 in
theorem fd_Md_38 : rn_Fd "WeightedTreesModel" 38 7 18 true (.array .int) := ⟨_, _, _, _, cl_Md, by decide, Or.inl (rn_in 694 rfl rfl), rfl, rfl⟩
set_option maxRecDepth 100000 in
theorem ff_Md_38 : rn_Ff "WeightedTreesModel" 38 7 18 (.array .int) := ⟨_, _, _, _, cl_Md, by decide, (rn_in 694 rfl rfl), rfl, rfl, rfl⟩
set_option maxRecDepth 100000 in
theorem fd_Md_41 : rn_Fd "WeightedTreesModel" 41 7 19 true (.array .long) := ⟨_, _, _, _, cl_Md, by decide, Or.inl (rn_in 695 rfl rfl), rfl, rfl⟩
set_option maxRecDepth 100000 in
theorem ff_Md_41 : rn_Ff "WeightedTreesModel" 41 7 19 (.array .long) := ⟨_, _, _, _, cl_Md, by decide, (rn_in 695 rfl rfl), rfl, rfl, rfl⟩
set_option maxRecDepth 100000 in
theorem fd_Md_44 : rn_Fd "WeightedTreesModel" 44 7 20 true (.array .int) := ⟨_, _, _, _, cl_Md, by decide, Or.inl (rn_in 696 rfl rfl), rfl, rfl⟩
set_option maxRecDepth 100000 in
theorem ff_Md_44 : rn_Ff "WeightedTreesModel" 44 7 20 (.array .int) := ⟨_, _, _, _, cl_Md, by decide, (rn_in 696 rfl rfl), rfl, rfl, rfl⟩
set_option maxRecDepth 100000 in
theorem fd_Md_47 : rn_Fd "WeightedTreesModel" 47 7 21 true (.array .long) := ⟨_, _, _, _, cl_Md, by decide, Or.inl (rn_in 697 rfl rfl), rfl, rfl⟩
set_option maxRecDepth 100000 in
theorem ff_Md_47 : rn_Ff "WeightedTreesModel" 47 7 21 (.array .long) := ⟨_, _, _, _, cl_Md, by decide, (rn_in 697 rfl rfl), rfl, rfl, rfl⟩
set_option maxRecDepth 100000 in
theorem fd_Md_50 : rn_Fd "WeightedTreesModel" 50 7 22 true (.array .int) := ⟨_, _, _, _, cl_Md, by decide, Or.inl (rn_in 698 rfl rfl), rfl, rfl⟩
set_option maxRecDepth 100000 in
theorem ff_Md_50 : rn_Ff "WeightedTreesModel" 50 7 22 (.array .int) := ⟨_, _, _, _, cl_Md, by decide, (rn_in 698 rfl rfl), rfl, rfl, rfl⟩
set_option maxRecDepth 100000 in
theorem fd_Md_53 : rn_Fd "WeightedTreesModel" 53 7 23 true (.array .long) := ⟨_, _, _, _, cl_Md, by decide, Or.inl (rn_in 699 rfl rfl), rfl, rfl⟩
set_option maxRecDepth 100000 in
theorem ff_Md_53 : rn_Ff "WeightedTreesModel" 53 7 23 (.array .long) := ⟨_, _, _, _, cl_Md, by decide, (rn_in 699 rfl rfl), rfl, rfl, rfl⟩
set_option maxRecDepth 100000 in
theorem fd_Md_56 : rn_Fd "WeightedTreesModel" 56 7 24 true (.array .long) := ⟨_, _, _, _, cl_Md, by decide, Or.inl (rn_in 700 rfl rfl), rfl, rfl⟩
set_option maxRecDepth 100000 in
theorem ff_Md_56 : rn_Ff "WeightedTreesModel" 56 7 24 (.array .long) := ⟨_, _, _, _, cl_Md, by decide, (rn_in 700 rfl rfl), rfl, rfl, rfl⟩
set_option maxRecDepth 100000 in
theorem fd_Md_59 : rn_Fd "WeightedTreesModel" 59 7 25 true (.array .long) := ⟨_, _, _, _, cl_Md, by decide, Or.inl (rn_in 701 rfl rfl), rfl, rfl⟩
set_option maxRecDepth 100000 in
theorem ff_Md_59 : rn_Ff "WeightedTreesModel" 59 7 25 (.array .long) := ⟨_, _, _, _, cl_Md, by decide, (rn_in 701 rfl rfl), rfl, rfl, rfl⟩
set_option maxRecDepth 100000 in
theorem fd_Md_62 : rn_Fd "WeightedTreesModel" 62 7 26 true (.array .int) := ⟨_, _, _, _, cl_Md, by decide, Or.inl (rn_in 702 rfl rfl), rfl, rfl⟩
set_option maxRecDepth 100000 in
theorem ff_Md_62 : rn_Ff "WeightedTreesModel" 62 7 26 (.array .int) := ⟨_, _, _, _, cl_Md, by decide, (rn_in 702 rfl rfl), rfl, rfl, rfl⟩
set_option maxRecDepth 100000 in
theorem fd_Md_65 : rn_Fd "WeightedTreesModel" 65 7 28 true (.array .int) := ⟨_, _, _, _, cl_Md, by decide, Or.inl (rn_in 704 rfl rfl), rfl, rfl⟩
set_option maxRecDepth 100000 in
theorem ff_Md_65 : rn_Ff "WeightedTreesModel" 65 7 28 (.array .int) := ⟨_, _, _, _, cl_Md, by decide, (rn_in 704 rfl rfl), rfl, rfl, rfl⟩
set_option maxRecDepth 100000 in
theorem fd_Md_68 : rn_Fd "WeightedTreesModel" 68 7 29 true (.array .int) := ⟨_, _, _, _, cl_Md, by decide, Or.inl (rn_in 705 rfl rfl), rfl, rfl⟩
set_option maxRecDepth 100000 in
theorem ff_Md_68 : rn_Ff "WeightedTreesModel" 68 7 29 (.array .int) := ⟨_, _, _, _, cl_Md, by decide, (rn_in 705 rfl rfl), rfl, rfl, rfl⟩
set_option maxRecDepth 100000 in
theorem fd_Md_71 : rn_Fd "WeightedTreesModel" 71 7 30 true (.array .int) := ⟨_, _, _, _, cl_Md, by decide, Or.inl (rn_in 706 rfl rfl), rfl, rfl⟩
set_option maxRecDepth 100000 in
theorem ff_Md_71 : rn_Ff "WeightedTreesModel" 71 7 30 (.array .int) := ⟨_, _, _, _, cl_Md, by decide, (rn_in 706 rfl rfl), rfl, rfl, rfl⟩
set_option maxRecDepth 100000 in
theorem fd_Md_74 : rn_Fd "WeightedTreesModel" 74 7 31 true (.array .int) := ⟨_, _, _, _, cl_Md, by decide, Or.inl (rn_in 707 rfl rfl), rfl, rfl⟩
set_option maxRecDepth 100000 in
theorem ff_Md_74 : rn_Ff "WeightedTreesModel" 74 7 31 (.array .int) := ⟨_, _, _, _, cl_Md, by decide, (rn_in 707 rfl rfl), rfl, rfl, rfl⟩
set_option maxRecDepth 100000 in
theorem fd_Md_77 : rn_Fd "WeightedTreesModel" 77 7 0 false .int := ⟨_, _, _, _, cl_Md, by decide, Or.inl (rn_in 676 rfl rfl), rfl, rfl⟩
set_option maxRecDepth 100000 in
theorem fd_Md_81 : rn_Fd "WeightedTreesModel" 81 7 2 false .int := ⟨_, _, _, _, cl_Md, by decide, Or.inl (rn_in 678 rfl rfl), rfl, rfl⟩
set_option maxRecDepth 100000 in
theorem fd_Md_86 : rn_Fd "WeightedTreesModel" 86 7 32 false .int := ⟨_, _, _, _, cl_Md, by decide, Or.inl (rn_in 708 rfl rfl), rfl, rfl⟩
set_option maxRecDepth 100000 in
theorem fd_Md_89 : rn_Fd "WeightedTreesModel" 89 7 33 false .int := ⟨_, _, _, _, cl_Md, by decide, Or.inl (rn_in 709 rfl rfl), rfl, rfl⟩
set_option maxRecDepth 100000 in
theorem fd_Md_92 : rn_Fd "WeightedTreesModel" 92 7 34 false .int := ⟨_, _, _, _, cl_Md, by decide, Or.inl (rn_in 710 rfl rfl), rfl, rfl⟩
set_option maxRecDepth 100000 in
theorem fd_Md_99 : rn_Fd "WeightedTreesModel" 99 7 14 false .int := ⟨_, _, _, _, cl_Md, by decide, Or.inl (rn_in 690 rfl rfl), rfl, rfl⟩
set_option maxRecDepth 100000 in
theorem fd_Md_115 : rn_Fd "WeightedTreesModel" 115 7 8 false .int := ⟨_, _, _, _, cl_Md, by decide, Or.inl (rn_in 684 rfl rfl), rfl, rfl⟩
set_option maxRecDepth 100000 in
theorem fd_Md_165 : rn_Fd "WeightedTreesModel" 165 7 5 false .int := ⟨_, _, _, _, cl_Md, by decide, Or.inl (rn_in 681 rfl rfl), rfl, rfl⟩
set_option maxRecDepth 100000 in
theorem fd_Md_168 : rn_Fd "WeightedTreesModel" 168 7 6 false .boolean := ⟨_, _, _, _, cl_Md, by decide, Or.inl (rn_in 682 rfl rfl), rfl, rfl⟩
set_option maxRecDepth 100000 in
theorem fd_Md_172 : rn_Fd "WeightedTreesModel" 172 7 16 false .boolean := ⟨_, _, _, _, cl_Md, by decide, Or.inl (rn_in 692 rfl rfl), rfl, rfl⟩
set_option maxRecDepth 100000 in
theorem fd_Md_175 : rn_Fd "WeightedTreesModel" 175 7 27 false .int := ⟨_, _, _, _, cl_Md, by decide, Or.inl (rn_in 703 rfl rfl), rfl, rfl⟩
set_option maxRecDepth 100000 in
theorem fd_Md_178 : rn_Fd "WeightedTreesModel" 178 7 7 false .int := ⟨_, _, _, _, cl_Md, by decide, Or.inl (rn_in 683 rfl rfl), rfl, rfl⟩
set_option maxRecDepth 100000 in
theorem fd_Md_198 : rn_Fd "WeightedTreesModel" 198 7 17 false .int := ⟨_, _, _, _, cl_Md, by decide, Or.inl (rn_in 693 rfl rfl), rfl, rfl⟩
set_option maxRecDepth 100000 in
theorem is_Ch_49 : rn_IS "WeightedTrees$Chart" 49 M_Ch_cell 3 := ⟨⟨(rn_in 484 rfl rfl), (rn_in 3 rfl rfl), by decide, by decide +kernel⟩, (Or.inl (rn_in 482 rfl rfl)), (rn_in 483 rfl rfl)⟩
set_option maxRecDepth 100000 in
theorem iv_Ch_61 : rn_IV "WeightedTrees$Chart" 61 M_Ch_fillPart 3 2 := ⟨⟨(rn_in 481 rfl rfl), (rn_in 3 rfl rfl), by decide, by decide +kernel⟩, (Or.inl (rn_in 550 rfl rfl)), (rn_in 479 rfl rfl), (rn_in 480 rfl rfl), _, rfl, rfl⟩
set_option maxRecDepth 100000 in
theorem iv_Ch_79 : rn_IV "WeightedTrees$Chart" 79 M_Ch_addRule 4 2 := ⟨⟨(rn_in 488 rfl rfl), (rn_in 3 rfl rfl), by decide, by decide +kernel⟩, (Or.inl (rn_in 485 rfl rfl)), (rn_in 487 rfl rfl), (rn_inS 18 rfl rfl), _, rfl, rfl⟩
set_option maxRecDepth 100000 in
theorem iv_Ch_83 : rn_IV "WeightedTrees$Chart" 83 M_Ch_matchBody 4 2 := ⟨⟨(rn_in 492 rfl rfl), (rn_in 3 rfl rfl), by decide, by decide +kernel⟩, (Or.inl (rn_in 489 rfl rfl)), (rn_in 491 rfl rfl), (rn_inS 19 rfl rfl), _, rfl, rfl⟩
set_option maxRecDepth 100000 in
theorem iv_Ch_90 : rn_IV "WeightedTrees$Chart" 90 M_Ch_keepBody 4 2 := ⟨⟨(rn_in 506 rfl rfl), (rn_in 3 rfl rfl), by decide, by decide +kernel⟩, (Or.inl (rn_in 503 rfl rfl)), (rn_in 505 rfl rfl), (rn_inS 22 rfl rfl), _, rfl, rfl⟩
set_option maxRecDepth 100000 in
theorem iv_Ch_96 : rn_IV "WeightedTrees$Chart" 96 M_Gr_symbol 2 5 := ⟨⟨(rn_in 429 rfl rfl), (rn_in 6 rfl rfl), by decide, by decide +kernel⟩, (Or.inl (rn_in 493 rfl rfl)), (rn_in 427 rfl rfl), (rn_in 428 rfl rfl), _, rfl, rfl⟩
set_option maxRecDepth 100000 in
theorem is_Ch_100 : rn_IS "WeightedTrees$Chart" 100 M_Gr_isNonterminal 1 := ⟨⟨(rn_in 432 rfl rfl), (rn_in 6 rfl rfl), by decide, by decide +kernel⟩, (Or.inl (rn_in 494 rfl rfl)), (rn_in 431 rfl rfl)⟩
set_option maxRecDepth 100000 in
theorem iv_Ch_104 : rn_IV "WeightedTrees$Chart" 104 M_Ch_matchNonterminal 4 2 := ⟨⟨(rn_in 498 rfl rfl), (rn_in 3 rfl rfl), by decide, by decide +kernel⟩, (Or.inl (rn_in 495 rfl rfl)), (rn_in 497 rfl rfl), (rn_inS 20 rfl rfl), _, rfl, rfl⟩
set_option maxRecDepth 100000 in
theorem iv_Ch_108 : rn_IV "WeightedTrees$Chart" 108 M_Ch_matchTerminal 4 2 := ⟨⟨(rn_in 502 rfl rfl), (rn_in 3 rfl rfl), by decide, by decide +kernel⟩, (Or.inl (rn_in 499 rfl rfl)), (rn_in 501 rfl rfl), (rn_inS 21 rfl rfl), _, rfl, rfl⟩
set_option maxRecDepth 100000 in
theorem is_Dr_19 : rn_IS "WeightedTrees$Draft" 19 M_Dr_codeAt 2 := ⟨⟨(rn_in 219 rfl rfl), (rn_in 2 rfl rfl), by decide, by decide +kernel⟩, (Or.inl (rn_in 217 rfl rfl)), (rn_in 218 rfl rfl)⟩
set_option maxRecDepth 100000 in
theorem is_Dr_23 : rn_IS "WeightedTrees$Draft" 23 M_Dr_isAllowed 1 := ⟨⟨(rn_in 223 rfl rfl), (rn_in 2 rfl rfl), by decide, by decide +kernel⟩, (Or.inl (rn_in 221 rfl rfl)), (rn_in 222 rfl rfl)⟩
set_option maxRecDepth 100000 in
theorem is_Dr_27 : rn_IS "WeightedTrees$Draft" 27 M_Wt_isSmallLetter 1 := ⟨⟨(rn_in 329 rfl rfl), (rn_in 1 rfl rfl), by decide, by decide +kernel⟩, (Or.inr ⟨_, (rn_in 539 rfl rfl)⟩), (rn_in 328 rfl rfl)⟩
set_option maxRecDepth 100000 in
theorem iv_Gr_44 : rn_IV "WeightedTrees$Grammar" 44 M_Gr_emptyable 0 5 := ⟨⟨(rn_in 421 rfl rfl), (rn_in 6 rfl rfl), by decide, by decide +kernel⟩, (Or.inl (rn_in 418 rfl rfl)), (rn_in 420 rfl rfl), (rn_inS 13 rfl rfl), _, rfl, rfl⟩
set_option maxRecDepth 100000 in
theorem iv_Gr_48 : rn_IV "WeightedTrees$Grammar" 48 M_Gr_findReached 1 5 := ⟨⟨(rn_in 439 rfl rfl), (rn_in 6 rfl rfl), by decide, by decide +kernel⟩, (Or.inl (rn_in 436 rfl rfl)), (rn_in 438 rfl rfl), (rn_inS 15 rfl rfl), _, rfl, rfl⟩
set_option maxRecDepth 100000 in
theorem is_Gr_52 : rn_IS "WeightedTrees$Grammar" 52 M_Gr_hasBit 2 := ⟨⟨(rn_in 435 rfl rfl), (rn_in 6 rfl rfl), by decide, by decide +kernel⟩, (Or.inl (rn_in 433 rfl rfl)), (rn_in 434 rfl rfl)⟩
set_option maxRecDepth 100000 in
theorem is_Gr_56 : rn_IS "WeightedTrees$Grammar" 56 M_Ji_bitCount 1 := ⟨⟨(rn_in 446 rfl rfl), (rn_in 13 rfl rfl), by decide, by decide +kernel⟩, (Or.inl (rn_in 444 rfl rfl)), (rn_in 445 rfl rfl)⟩
set_option maxRecDepth 100000 in
theorem iv_Gr_62 : rn_IV "WeightedTrees$Grammar" 62 M_Gr_vanishes 3 5 := ⟨⟨(rn_in 425 rfl rfl), (rn_in 6 rfl rfl), by decide, by decide +kernel⟩, (Or.inl (rn_in 422 rfl rfl)), (rn_in 424 rfl rfl), (rn_inS 14 rfl rfl), _, rfl, rfl⟩
set_option maxRecDepth 100000 in
theorem iv_Gr_66 : rn_IV "WeightedTrees$Grammar" 66 M_Gr_symbol 2 5 := ⟨⟨(rn_in 429 rfl rfl), (rn_in 6 rfl rfl), by decide, by decide +kernel⟩, (Or.inl (rn_in 426 rfl rfl)), (rn_in 427 rfl rfl), (rn_in 428 rfl rfl), _, rfl, rfl⟩
set_option maxRecDepth 100000 in
theorem is_Gr_70 : rn_IS "WeightedTrees$Grammar" 70 M_Gr_isNonterminal 1 := ⟨⟨(rn_in 432 rfl rfl), (rn_in 6 rfl rfl), by decide, by decide +kernel⟩, (Or.inl (rn_in 430 rfl rfl)), (rn_in 431 rfl rfl)⟩
set_option maxRecDepth 100000 in
theorem iv_Gr_74 : rn_IV "WeightedTrees$Grammar" 74 M_Gr_closeReached 0 5 := ⟨⟨(rn_in 443 rfl rfl), (rn_in 6 rfl rfl), by decide, by decide +kernel⟩, (Or.inl (rn_in 440 rfl rfl)), (rn_in 442 rfl rfl), (rn_inS 16 rfl rfl), _, rfl, rfl⟩
set_option maxRecDepth 100000 in
theorem iv_Rd_26 : rn_IV "WeightedTrees$GrammarReader" 26 M_Gr_clear 0 5 := ⟨⟨(rn_in 279 rfl rfl), (rn_in 6 rfl rfl), by decide, by decide +kernel⟩, (Or.inl (rn_in 276 rfl rfl)), (rn_in 277 rfl rfl), (rn_in 278 rfl rfl), _, rfl, rfl⟩
set_option maxRecDepth 100000 in
theorem iv_Rd_31 : rn_IV "WeightedTrees$GrammarReader" 31 M_Dr_lineCount 0 1 := ⟨⟨(rn_in 283 rfl rfl), (rn_in 2 rfl rfl), by decide, by decide +kernel⟩, (Or.inl (rn_in 280 rfl rfl)), (rn_in 281 rfl rfl), (rn_in 282 rfl rfl), _, rfl, rfl⟩
set_option maxRecDepth 100000 in
theorem iv_Rd_37 : rn_IV "WeightedTrees$GrammarReader" 37 M_Dr_lineEnd 1 1 := ⟨⟨(rn_in 287 rfl rfl), (rn_in 2 rfl rfl), by decide, by decide +kernel⟩, (Or.inl (rn_in 284 rfl rfl)), (rn_in 285 rfl rfl), (rn_in 286 rfl rfl), _, rfl, rfl⟩
set_option maxRecDepth 100000 in
theorem iv_Rd_41 : rn_IV "WeightedTrees$GrammarReader" 41 M_Rd_isLeftOut 0 6 := ⟨⟨(rn_in 291 rfl rfl), (rn_in 8 rfl rfl), by decide, by decide +kernel⟩, (Or.inl (rn_in 288 rfl rfl)), (rn_in 290 rfl rfl), (rn_inS 1 rfl rfl), _, rfl, rfl⟩
set_option maxRecDepth 100000 in
theorem iv_Rd_45 : rn_IV "WeightedTrees$GrammarReader" 45 M_Rd_readRule 0 6 := ⟨⟨(rn_in 303 rfl rfl), (rn_in 8 rfl rfl), by decide, by decide +kernel⟩, (Or.inl (rn_in 300 rfl rfl)), (rn_in 302 rfl rfl), (rn_inS 4 rfl rfl), _, rfl, rfl⟩
set_option maxRecDepth 100000 in
theorem iv_Rd_51 : rn_IV "WeightedTrees$GrammarReader" 51 M_Rd_sees 1 6 := ⟨⟨(rn_in 295 rfl rfl), (rn_in 8 rfl rfl), by decide, by decide +kernel⟩, (Or.inl (rn_in 292 rfl rfl)), (rn_in 294 rfl rfl), (rn_inS 2 rfl rfl), _, rfl, rfl⟩
set_option maxRecDepth 100000 in
theorem iv_Rd_55 : rn_IV "WeightedTrees$GrammarReader" 55 M_Rd_readHead 1 6 := ⟨⟨(rn_in 307 rfl rfl), (rn_in 8 rfl rfl), by decide, by decide +kernel⟩, (Or.inl (rn_in 304 rfl rfl)), (rn_in 306 rfl rfl), (rn_inS 5 rfl rfl), _, rfl, rfl⟩
set_option maxRecDepth 100000 in
theorem iv_Rd_59 : rn_IV "WeightedTrees$GrammarReader" 59 M_Rd_skip 1 6 := ⟨⟨(rn_in 322 rfl rfl), (rn_in 8 rfl rfl), by decide, by decide +kernel⟩, (Or.inl (rn_in 319 rfl rfl)), (rn_in 321 rfl rfl), (rn_inS 7 rfl rfl), _, rfl, rfl⟩
set_option maxRecDepth 100000 in
theorem iv_Rd_62 : rn_IV "WeightedTrees$GrammarReader" 62 M_Rd_readBody 1 6 := ⟨⟨(rn_in 326 rfl rfl), (rn_in 8 rfl rfl), by decide, by decide +kernel⟩, (Or.inl (rn_in 323 rfl rfl)), (rn_in 325 rfl rfl), (rn_inS 8 rfl rfl), _, rfl, rfl⟩
set_option maxRecDepth 100000 in
theorem iv_Rd_65 : rn_IV "WeightedTrees$GrammarReader" 65 M_Rd_readWeight 1 6 := ⟨⟨(rn_in 333 rfl rfl), (rn_in 8 rfl rfl), by decide, by decide +kernel⟩, (Or.inl (rn_in 330 rfl rfl)), (rn_in 332 rfl rfl), (rn_inS 9 rfl rfl), _, rfl, rfl⟩
set_option maxRecDepth 100000 in
theorem iv_Rd_68 : rn_IV "WeightedTrees$GrammarReader" 68 M_Rd_readCost 1 6 := ⟨⟨(rn_in 345 rfl rfl), (rn_in 8 rfl rfl), by decide, by decide +kernel⟩, (Or.inl (rn_in 342 rfl rfl)), (rn_in 344 rfl rfl), (rn_inS 11 rfl rfl), _, rfl, rfl⟩
set_option maxRecDepth 100000 in
theorem iv_Rd_71 : rn_IV "WeightedTrees$GrammarReader" 71 M_Rd_seen 0 6 := ⟨⟨(rn_in 299 rfl rfl), (rn_in 8 rfl rfl), by decide, by decide +kernel⟩, (Or.inl (rn_in 296 rfl rfl)), (rn_in 298 rfl rfl), (rn_inS 3 rfl rfl), _, rfl, rfl⟩
set_option maxRecDepth 100000 in
theorem is_Rd_74 : rn_IS "WeightedTrees$GrammarReader" 74 M_Wt_isCapital 1 := ⟨⟨(rn_in 310 rfl rfl), (rn_in 1 rfl rfl), by decide, by decide +kernel⟩, (Or.inr ⟨_, (rn_in 308 rfl rfl)⟩), (rn_in 309 rfl rfl)⟩
set_option maxRecDepth 100000 in
theorem iv_Rd_81 : rn_IV "WeightedTrees$GrammarReader" 81 M_Rd_readSymbol 0 6 := ⟨⟨(rn_in 314 rfl rfl), (rn_in 8 rfl rfl), by decide, by decide +kernel⟩, (Or.inl (rn_in 311 rfl rfl)), (rn_in 313 rfl rfl), (rn_inS 6 rfl rfl), _, rfl, rfl⟩
set_option maxRecDepth 100000 in
theorem is_Rd_84 : rn_IS "WeightedTrees$GrammarReader" 84 M_Wt_isSmallLetter 1 := ⟨⟨(rn_in 329 rfl rfl), (rn_in 1 rfl rfl), by decide, by decide +kernel⟩, (Or.inr ⟨_, (rn_in 327 rfl rfl)⟩), (rn_in 328 rfl rfl)⟩
set_option maxRecDepth 100000 in
theorem iv_Rd_93 : rn_IV "WeightedTrees$GrammarReader" 93 M_Gr_nonterminalOf 1 5 := ⟨⟨(rn_in 318 rfl rfl), (rn_in 6 rfl rfl), by decide, by decide +kernel⟩, (Or.inl (rn_in 315 rfl rfl)), (rn_in 316 rfl rfl), (rn_in 317 rfl rfl), _, rfl, rfl⟩
set_option maxRecDepth 100000 in
theorem iv_Rd_96 : rn_IV "WeightedTrees$GrammarReader" 96 M_Rd_readNumber 0 6 := ⟨⟨(rn_in 337 rfl rfl), (rn_in 8 rfl rfl), by decide, by decide +kernel⟩, (Or.inl (rn_in 334 rfl rfl)), (rn_in 336 rfl rfl), (rn_inS 10 rfl rfl), _, rfl, rfl⟩
set_option maxRecDepth 100000 in
theorem is_Rd_103 : rn_IS "WeightedTrees$GrammarReader" 103 M_Rd_inverse 1 := ⟨⟨(rn_in 340 rfl rfl), (rn_in 8 rfl rfl), by decide, by decide +kernel⟩, (Or.inl (rn_in 338 rfl rfl)), (rn_in 339 rfl rfl)⟩
set_option maxRecDepth 100000 in
theorem is_Tl_39 : rn_IS "WeightedTrees$TreeListing" 39 M_Ch_cell 3 := ⟨⟨(rn_in 484 rfl rfl), (rn_in 3 rfl rfl), by decide, by decide +kernel⟩, (Or.inl (rn_in 639 rfl rfl)), (rn_in 483 rfl rfl)⟩
set_option maxRecDepth 100000 in
theorem iv_Tl_43 : rn_IV "WeightedTrees$TreeListing" 43 M_Tl_keepPlace 4 4 := ⟨⟨(rn_in 643 rfl rfl), (rn_in 5 rfl rfl), by decide, by decide +kernel⟩, (Or.inl (rn_in 640 rfl rfl)), (rn_in 642 rfl rfl), (rn_inS 26 rfl rfl), _, rfl, rfl⟩
set_option maxRecDepth 100000 in
theorem iv_Tl_47 : rn_IV "WeightedTrees$TreeListing" 47 M_Tl_shownCount 0 4 := ⟨⟨(rn_in 647 rfl rfl), (rn_in 5 rfl rfl), by decide, by decide +kernel⟩, (Or.inl (rn_in 644 rfl rfl)), (rn_in 645 rfl rfl), (rn_in 646 rfl rfl), _, rfl, rfl⟩
set_option maxRecDepth 100000 in
theorem iv_Tl_51 : rn_IV "WeightedTrees$TreeListing" 51 M_Tl_expand 3 4 := ⟨⟨(rn_in 654 rfl rfl), (rn_in 5 rfl rfl), by decide, by decide +kernel⟩, (Or.inl (rn_in 651 rfl rfl)), (rn_in 653 rfl rfl), (rn_inS 27 rfl rfl), _, rfl, rfl⟩
set_option maxRecDepth 100000 in
theorem iv_Tl_61 : rn_IV "WeightedTrees$TreeListing" 61 M_Gr_symbol 2 5 := ⟨⟨(rn_in 429 rfl rfl), (rn_in 6 rfl rfl), by decide, by decide +kernel⟩, (Or.inl (rn_in 655 rfl rfl)), (rn_in 427 rfl rfl), (rn_in 428 rfl rfl), _, rfl, rfl⟩
set_option maxRecDepth 100000 in
theorem iv_Tl_64 : rn_IV "WeightedTrees$TreeListing" 64 M_Ch_lengthOf 2 2 := ⟨⟨(rn_in 659 rfl rfl), (rn_in 3 rfl rfl), by decide, by decide +kernel⟩, (Or.inl (rn_in 656 rfl rfl)), (rn_in 657 rfl rfl), (rn_in 658 rfl rfl), _, rfl, rfl⟩
set_option maxRecDepth 100000 in
theorem is_Tl_67 : rn_IS "WeightedTrees$TreeListing" 67 M_Gr_isNonterminal 1 := ⟨⟨(rn_in 432 rfl rfl), (rn_in 6 rfl rfl), by decide, by decide +kernel⟩, (Or.inl (rn_in 660 rfl rfl)), (rn_in 431 rfl rfl)⟩
set_option maxRecDepth 100000 in
theorem iv_Ut_31 : rn_IV "WeightedTrees$UnitTable" 31 M_Ut_addRule 3 3 := ⟨⟨(rn_in 514 rfl rfl), (rn_in 4 rfl rfl), by decide, by decide +kernel⟩, (Or.inl (rn_in 511 rfl rfl)), (rn_in 513 rfl rfl), (rn_inS 23 rfl rfl), _, rfl, rfl⟩
set_option maxRecDepth 100000 in
theorem iv_Ut_38 : rn_IV "WeightedTrees$UnitTable" 38 M_Gr_symbol 2 5 := ⟨⟨(rn_in 429 rfl rfl), (rn_in 6 rfl rfl), by decide, by decide +kernel⟩, (Or.inl (rn_in 515 rfl rfl)), (rn_in 427 rfl rfl), (rn_in 428 rfl rfl), _, rfl, rfl⟩
set_option maxRecDepth 100000 in
theorem is_Ut_42 : rn_IS "WeightedTrees$UnitTable" 42 M_Gr_isNonterminal 1 := ⟨⟨(rn_in 432 rfl rfl), (rn_in 6 rfl rfl), by decide, by decide +kernel⟩, (Or.inl (rn_in 516 rfl rfl)), (rn_in 431 rfl rfl)⟩
set_option maxRecDepth 100000 in
theorem is_Ut_49 : rn_IS "WeightedTrees$UnitTable" 49 M_Ut_emptyProduct 4 := ⟨⟨(rn_in 519 rfl rfl), (rn_in 4 rfl rfl), by decide, by decide +kernel⟩, (Or.inl (rn_in 517 rfl rfl)), (rn_in 518 rfl rfl)⟩
set_option maxRecDepth 100000 in
theorem iv_Ut_53 : rn_IV "WeightedTrees$UnitTable" 53 M_Ut_sum 2 3 := ⟨⟨(rn_in 527 rfl rfl), (rn_in 4 rfl rfl), by decide, by decide +kernel⟩, (Or.inl (rn_in 524 rfl rfl)), (rn_in 525 rfl rfl), (rn_in 526 rfl rfl), _, rfl, rfl⟩
set_option maxRecDepth 100000 in
theorem iv_Ut_57 : rn_IV "WeightedTrees$UnitTable" 57 M_Ch_emptySum 1 2 := ⟨⟨(rn_in 523 rfl rfl), (rn_in 3 rfl rfl), by decide, by decide +kernel⟩, (Or.inl (rn_in 520 rfl rfl)), (rn_in 521 rfl rfl), (rn_in 522 rfl rfl), _, rfl, rfl⟩
set_option maxRecDepth 100000 in
theorem iv_Md_95 : rn_IV "WeightedTreesModel" 95 M_Md_isFigure 0 7 := ⟨⟨(rn_in 836 rfl rfl), (rn_in 7 rfl rfl), by decide, by decide +kernel⟩, (Or.inl (rn_in 833 rfl rfl)), (rn_in 835 rfl rfl), (rn_inS 35 rfl rfl), _, rfl, rfl⟩
set_option maxRecDepth 100000 in
theorem is_Md_104 : rn_IS "WeightedTreesModel" 104 M_Md_isCapital 1 := ⟨⟨(rn_in 813 rfl rfl), (rn_in 7 rfl rfl), by decide, by decide +kernel⟩, (Or.inl (rn_in 811 rfl rfl)), (rn_in 812 rfl rfl)⟩
set_option maxRecDepth 100000 in
theorem is_Md_108 : rn_IS "WeightedTreesModel" 108 M_Md_isSmall 1 := ⟨⟨(rn_in 828 rfl rfl), (rn_in 7 rfl rfl), by decide, by decide +kernel⟩, (Or.inl (rn_in 826 rfl rfl)), (rn_in 827 rfl rfl)⟩
set_option maxRecDepth 100000 in
theorem iv_Md_111 : rn_IV "WeightedTreesModel" 111 M_Md_symbol 1 7 := ⟨⟨(rn_in 817 rfl rfl), (rn_in 7 rfl rfl), by decide, by decide +kernel⟩, (Or.inl (rn_in 814 rfl rfl)), (rn_in 816 rfl rfl), (rn_inS 31 rfl rfl), _, rfl, rfl⟩
set_option maxRecDepth 100000 in
theorem iv_Md_118 : rn_IV "WeightedTreesModel" 118 M_Md_next 1 7 := ⟨⟨(rn_in 821 rfl rfl), (rn_in 7 rfl rfl), by decide, by decide +kernel⟩, (Or.inl (rn_in 818 rfl rfl)), (rn_in 820 rfl rfl), (rn_inS 32 rfl rfl), _, rfl, rfl⟩
set_option maxRecDepth 100000 in
theorem iv_Md_121 : rn_IV "WeightedTreesModel" 121 M_Md_body 1 7 := ⟨⟨(rn_in 825 rfl rfl), (rn_in 7 rfl rfl), by decide, by decide +kernel⟩, (Or.inl (rn_in 822 rfl rfl)), (rn_in 824 rfl rfl), (rn_inS 33 rfl rfl), _, rfl, rfl⟩
set_option maxRecDepth 100000 in
theorem iv_Md_124 : rn_IV "WeightedTreesModel" 124 M_Md_number 0 7 := ⟨⟨(rn_in 832 rfl rfl), (rn_in 7 rfl rfl), by decide, by decide +kernel⟩, (Or.inl (rn_in 829 rfl rfl)), (rn_in 831 rfl rfl), (rn_inS 34 rfl rfl), _, rfl, rfl⟩
set_option maxRecDepth 100000 in
theorem is_Md_127 : rn_IS "WeightedTreesModel" 127 M_Md_inverse 1 := ⟨⟨(rn_in 839 rfl rfl), (rn_in 7 rfl rfl), by decide, by decide +kernel⟩, (Or.inl (rn_in 837 rfl rfl)), (rn_in 838 rfl rfl)⟩
set_option maxRecDepth 100000 in
theorem iv_Md_131 : rn_IV "WeightedTreesModel" 131 M_Md_ruleLine 0 7 := ⟨⟨(rn_in 810 rfl rfl), (rn_in 7 rfl rfl), by decide, by decide +kernel⟩, (Or.inl (rn_in 807 rfl rfl)), (rn_in 809 rfl rfl), (rn_inS 30 rfl rfl), _, rfl, rfl⟩
set_option maxRecDepth 100000 in
theorem iv_Md_134 : rn_IV "WeightedTreesModel" 134 M_Md_isLetter 1 7 := ⟨⟨(rn_in 856 rfl rfl), (rn_in 7 rfl rfl), by decide, by decide +kernel⟩, (Or.inl (rn_in 853 rfl rfl)), (rn_in 855 rfl rfl), (rn_inS 39 rfl rfl), _, rfl, rfl⟩
set_option maxRecDepth 100000 in
theorem iv_Md_137 : rn_IV "WeightedTreesModel" 137 M_Md_emptyBodyCost 2 7 := ⟨⟨(rn_in 852 rfl rfl), (rn_in 7 rfl rfl), by decide, by decide +kernel⟩, (Or.inl (rn_in 849 rfl rfl)), (rn_in 851 rfl rfl), (rn_inS 38 rfl rfl), _, rfl, rfl⟩
set_option maxRecDepth 100000 in
theorem iv_Md_141 : rn_IV "WeightedTreesModel" 141 M_Md_findEmptyable 0 7 := ⟨⟨(rn_in 848 rfl rfl), (rn_in 7 rfl rfl), by decide, by decide +kernel⟩, (Or.inl (rn_in 845 rfl rfl)), (rn_in 847 rfl rfl), (rn_inS 37 rfl rfl), _, rfl, rfl⟩
set_option maxRecDepth 100000 in
theorem iv_Md_146 : rn_IV "WeightedTreesModel" 146 M_Md_emptyBody 2 7 := ⟨⟨(rn_in 865 rfl rfl), (rn_in 7 rfl rfl), by decide, by decide +kernel⟩, (Or.inl (rn_in 862 rfl rfl)), (rn_in 864 rfl rfl), (rn_inS 41 rfl rfl), _, rfl, rfl⟩
set_option maxRecDepth 100000 in
theorem iv_Md_150 : rn_IV "WeightedTreesModel" 150 M_Md_readGrammar 1 7 := ⟨⟨(rn_in 806 rfl rfl), (rn_in 7 rfl rfl), by decide, by decide +kernel⟩, (Or.inl (rn_in 803 rfl rfl)), (rn_in 805 rfl rfl), (rn_inS 29 rfl rfl), _, rfl, rfl⟩
set_option maxRecDepth 100000 in
theorem iv_Md_153 : rn_IV "WeightedTreesModel" 153 M_Md_loops 0 7 := ⟨⟨(rn_in 844 rfl rfl), (rn_in 7 rfl rfl), by decide, by decide +kernel⟩, (Or.inl (rn_in 841 rfl rfl)), (rn_in 843 rfl rfl), (rn_inS 36 rfl rfl), _, rfl, rfl⟩
set_option maxRecDepth 100000 in
theorem iv_Md_156 : rn_IV "WeightedTreesModel" 156 M_Md_fillEmpty 0 7 := ⟨⟨(rn_in 861 rfl rfl), (rn_in 7 rfl rfl), by decide, by decide +kernel⟩, (Or.inl (rn_in 858 rfl rfl)), (rn_in 860 rfl rfl), (rn_inS 40 rfl rfl), _, rfl, rfl⟩
set_option maxRecDepth 100000 in
theorem iv_Md_159 : rn_IV "WeightedTreesModel" 159 M_Md_fillUnits 0 7 := ⟨⟨(rn_in 869 rfl rfl), (rn_in 7 rfl rfl), by decide, by decide +kernel⟩, (Or.inl (rn_in 866 rfl rfl)), (rn_in 868 rfl rfl), (rn_inS 42 rfl rfl), _, rfl, rfl⟩
set_option maxRecDepth 100000 in
theorem iv_Md_162 : rn_IV "WeightedTreesModel" 162 M_Md_take 1 7 := ⟨⟨(rn_in 802 rfl rfl), (rn_in 7 rfl rfl), by decide, by decide +kernel⟩, (Or.inl (rn_in 799 rfl rfl)), (rn_in 801 rfl rfl), (rn_inS 28 rfl rfl), _, rfl, rfl⟩
set_option maxRecDepth 100000 in
theorem is_Md_181 : rn_IS "WeightedTreesModel" 181 M_Md_cell 3 := ⟨⟨(rn_in 884 rfl rfl), (rn_in 7 rfl rfl), by decide, by decide +kernel⟩, (Or.inl (rn_in 882 rfl rfl)), (rn_in 883 rfl rfl)⟩
set_option maxRecDepth 100000 in
theorem iv_Md_185 : rn_IV "WeightedTreesModel" 185 M_Md_sumOf 3 7 := ⟨⟨(rn_in 892 rfl rfl), (rn_in 7 rfl rfl), by decide, by decide +kernel⟩, (Or.inl (rn_in 889 rfl rfl)), (rn_in 891 rfl rfl), (rn_inS 45 rfl rfl), _, rfl, rfl⟩
set_option maxRecDepth 100000 in
theorem iv_Md_189 : rn_IV "WeightedTreesModel" 189 M_Md_costOf 3 7 := ⟨⟨(rn_in 900 rfl rfl), (rn_in 7 rfl rfl), by decide, by decide +kernel⟩, (Or.inl (rn_in 897 rfl rfl)), (rn_in 899 rfl rfl), (rn_inS 47 rfl rfl), _, rfl, rfl⟩
set_option maxRecDepth 100000 in
theorem iv_Md_192 : rn_IV "WeightedTreesModel" 192 M_Md_bodySum 3 7 := ⟨⟨(rn_in 888 rfl rfl), (rn_in 7 rfl rfl), by decide, by decide +kernel⟩, (Or.inl (rn_in 885 rfl rfl)), (rn_in 887 rfl rfl), (rn_inS 44 rfl rfl), _, rfl, rfl⟩
set_option maxRecDepth 100000 in
theorem iv_Md_195 : rn_IV "WeightedTreesModel" 195 M_Md_bodyCost 3 7 := ⟨⟨(rn_in 896 rfl rfl), (rn_in 7 rfl rfl), by decide, by decide +kernel⟩, (Or.inl (rn_in 893 rfl rfl)), (rn_in 895 rfl rfl), (rn_inS 46 rfl rfl), _, rfl, rfl⟩
set_option maxRecDepth 100000 in
theorem iv_Md_201 : rn_IV "WeightedTreesModel" 201 M_Md_fillPart 2 7 := ⟨⟨(rn_in 881 rfl rfl), (rn_in 7 rfl rfl), by decide, by decide +kernel⟩, (Or.inl (rn_in 878 rfl rfl)), (rn_in 880 rfl rfl), (rn_inS 43 rfl rfl), _, rfl, rfl⟩
set_option maxRecDepth 100000 in
theorem iv_Md_205 : rn_IV "WeightedTreesModel" 205 M_Md_defer 4 7 := ⟨⟨(rn_in 948 rfl rfl), (rn_in 7 rfl rfl), by decide, by decide +kernel⟩, (Or.inl (rn_in 945 rfl rfl)), (rn_in 947 rfl rfl), (rn_inS 51 rfl rfl), _, rfl, rfl⟩
set_option maxRecDepth 100000 in
theorem iv_Md_209 : rn_IV "WeightedTreesModel" 209 M_Md_ruleFor 3 7 := ⟨⟨(rn_in 952 rfl rfl), (rn_in 7 rfl rfl), by decide, by decide +kernel⟩, (Or.inl (rn_in 949 rfl rfl)), (rn_in 951 rfl rfl), (rn_inS 52 rfl rfl), _, rfl, rfl⟩
set_option maxRecDepth 100000 in
theorem iv_Md_212 : rn_IV "WeightedTreesModel" 212 M_Md_turnOver 2 7 := ⟨⟨(rn_in 956 rfl rfl), (rn_in 7 rfl rfl), by decide, by decide +kernel⟩, (Or.inl (rn_in 953 rfl rfl)), (rn_in 955 rfl rfl), (rn_inS 53 rfl rfl), _, rfl, rfl⟩
set_option maxRecDepth 100000 in
theorem iv_Md_215 : rn_IV "WeightedTreesModel" 215 M_Md_isSymbol 1 7 := ⟨⟨(rn_in 912 rfl rfl), (rn_in 7 rfl rfl), by decide, by decide +kernel⟩, (Or.inl (rn_in 909 rfl rfl)), (rn_in 911 rfl rfl), (rn_inS 48 rfl rfl), _, rfl, rfl⟩
set_option maxRecDepth 100000 in
theorem iv_Md_218 : rn_IV "WeightedTreesModel" 218 M_Md_refusal 3 7 := ⟨⟨(rn_in 932 rfl rfl), (rn_in 7 rfl rfl), by decide, by decide +kernel⟩, (Or.inl (rn_in 929 rfl rfl)), (rn_in 931 rfl rfl), (rn_inS 49 rfl rfl), _, rfl, rfl⟩
set_option maxRecDepth 100000 in
theorem iv_Md_221 : rn_IV "WeightedTreesModel" 221 M_Md_unroll 3 7 := ⟨⟨(rn_in 944 rfl rfl), (rn_in 7 rfl rfl), by decide, by decide +kernel⟩, (Or.inl (rn_in 941 rfl rfl)), (rn_in 943 rfl rfl), (rn_inS 50 rfl rfl), _, rfl, rfl⟩
set_option maxRecDepth 100000 in
theorem ii_Wt_9 : rn_II "WeightedTrees" 9 M_Dr_init 0 := ⟨⟨(rn_in 29 rfl rfl), (rn_in 2 rfl rfl), by decide, by decide +kernel⟩, (Or.inr ⟨_, (rn_in 27 rfl rfl)⟩), (rn_in 28 rfl rfl), rfl⟩
set_option maxRecDepth 100000 in
theorem ii_Wt_18 : rn_II "WeightedTrees" 18 M_Ch_init 0 := ⟨⟨(rn_in 46 rfl rfl), (rn_in 3 rfl rfl), by decide, by decide +kernel⟩, (Or.inr ⟨_, (rn_in 44 rfl rfl)⟩), (rn_in 45 rfl rfl), rfl⟩
set_option maxRecDepth 100000 in
theorem ii_Wt_25 : rn_II "WeightedTrees" 25 M_Ut_init 0 := ⟨⟨(rn_in 94 rfl rfl), (rn_in 4 rfl rfl), by decide, by decide +kernel⟩, (Or.inr ⟨_, (rn_in 92 rfl rfl)⟩), (rn_in 93 rfl rfl), rfl⟩
set_option maxRecDepth 100000 in
theorem ii_Wt_32 : rn_II "WeightedTrees" 32 M_Tl_init 0 := ⟨⟨(rn_in 104 rfl rfl), (rn_in 5 rfl rfl), by decide, by decide +kernel⟩, (Or.inr ⟨_, (rn_in 102 rfl rfl)⟩), (rn_in 103 rfl rfl), rfl⟩
set_option maxRecDepth 100000 in
theorem ii_Wt_39 : rn_II "WeightedTrees" 39 M_Gr_init 0 := ⟨⟨(rn_in 130 rfl rfl), (rn_in 6 rfl rfl), by decide, by decide +kernel⟩, (Or.inr ⟨_, (rn_in 128 rfl rfl)⟩), (rn_in 129 rfl rfl), rfl⟩
set_option maxRecDepth 100000 in
theorem kl_Dr_30 : Cond.constantLong "WeightedTrees$Draft" 30 (255) ∈ rn_tb := (rn_in 220 rfl rfl)
set_option maxRecDepth 100000 in
theorem kl_Rd_110 : Cond.constantLong "WeightedTrees$GrammarReader" 110 (2) ∈ rn_tb := (rn_in 341 rfl rfl)
set_option maxRecDepth 100000 in
theorem kl_Md_84 : Cond.constantLong "WeightedTreesModel" 84 (255) ∈ rn_tb := (rn_in 790 rfl rfl)
set_option maxRecDepth 100000 in
theorem kl_Md_102 : Cond.constantLong "WeightedTreesModel" 102 (2) ∈ rn_tb := (rn_in 840 rfl rfl)
set_option maxRecDepth 100000 in
theorem kl_Md_144 : Cond.constantLong "WeightedTreesModel" 144 (63) ∈ rn_tb := (rn_in 857 rfl rfl)
set_option maxRecDepth 100000 in
theorem kc_Ji_265 : Cond.constant "java/lang/Integer" 265 (1431655765) ∈ rn_tb := (rn_in 447 rfl rfl)
set_option maxRecDepth 100000 in
theorem kc_Ji_266 : Cond.constant "java/lang/Integer" 266 (858993459) ∈ rn_tb := (rn_in 448 rfl rfl)
set_option maxRecDepth 100000 in
theorem kc_Ji_267 : Cond.constant "java/lang/Integer" 267 (252645135) ∈ rn_tb := (rn_in 449 rfl rfl)
set_option maxRecDepth 100000 in
theorem mm_Tl_28 : Cond.methodLink "WeightedTrees$TreeListing" 28 Lib.Math.min.name ∈ rn_tb := (rn_in 648 rfl rfl)
set_option maxRecDepth 100000 in
theorem mm_1 : Cond.static Lib.Math.min.name ∈ rn_tb := (rn_in 649 rfl rfl)
set_option maxRecDepth 100000 in
theorem mm_2 : Cond.initialized "java/lang/Math" ∈ rn_tb := (rn_in 16 rfl rfl)
set_option maxRecDepth 100000 in
theorem mm_3 : Cond.code Lib.Math.min.name Lib.Math.min.code 2 (some .int) ∈ rn_tb := (rn_in 650 rfl rfl)
set_option maxRecDepth 100000 in
theorem oi_Wt_1 : Cond.methodLink "WeightedTrees" 1 Lib.objectInit ∈ rn_tb := (rn_in 22 rfl rfl)
set_option maxRecDepth 100000 in
theorem oi_Ch_5 : Cond.methodLink "WeightedTrees$Chart" 5 Lib.objectInit ∈ rn_tb := (rn_in 47 rfl rfl)
set_option maxRecDepth 100000 in
theorem oi_Dr_3 : Cond.methodLink "WeightedTrees$Draft" 3 Lib.objectInit ∈ rn_tb := (rn_in 30 rfl rfl)
set_option maxRecDepth 100000 in
theorem oi_Gr_3 : Cond.methodLink "WeightedTrees$Grammar" 3 Lib.objectInit ∈ rn_tb := (rn_in 131 rfl rfl)
set_option maxRecDepth 100000 in
theorem oi_Tl_3 : Cond.methodLink "WeightedTrees$TreeListing" 3 Lib.objectInit ∈ rn_tb := (rn_in 105 rfl rfl)
set_option maxRecDepth 100000 in
theorem oi_Ut_3 : Cond.methodLink "WeightedTrees$UnitTable" 3 Lib.objectInit ∈ rn_tb := (rn_in 95 rfl rfl)
set_option maxRecDepth 100000 in
theorem oi_Md_1 : Cond.methodLink "WeightedTreesModel" 1 Lib.objectInit ∈ rn_tb := (rn_in 675 rfl rfl)
set_option maxRecDepth 100000 in
theorem oi_1 : Cond.instanceMethod Lib.objectInit ∈ rn_tb := (rn_in 23 rfl rfl)
set_option maxRecDepth 100000 in
theorem oi_2 : Cond.code Lib.objectInit ⟨#[0xb1]⟩ 1 none ∈ rn_tb := (rn_in 24 rfl rfl)
set_option maxRecDepth 100000 in
theorem ac_int : Cond.arrayClass .int ∈ rn_tb := (rn_in 89 rfl rfl)
set_option maxRecDepth 100000 in
theorem ac_char : Cond.arrayClass .char ∈ rn_tb := (rn_in 41 rfl rfl)
set_option maxRecDepth 100000 in
theorem ac_long : Cond.arrayClass .long ∈ rn_tb := (rn_in 88 rfl rfl)
set_option maxRecDepth 100000 in
theorem ma_Ch_36 : Cond.classLink "WeightedTrees$Chart" 36 "[[J" ∈ rn_tb ∧ Cond.arrayOver (.array .long) ∈ rn_tb ∧ Cond.arrayClass .long ∈ rn_tb := ⟨(rn_in 48 rfl rfl), (rn_in 49 rfl rfl), (rn_in 88 rfl rfl)⟩
set_option maxRecDepth 100000 in
theorem ma_Ch_41 : Cond.classLink "WeightedTrees$Chart" 41 "[[I" ∈ rn_tb ∧ Cond.arrayOver (.array .int) ∈ rn_tb ∧ Cond.arrayClass .int ∈ rn_tb := ⟨(rn_in 50 rfl rfl), (rn_in 51 rfl rfl), (rn_in 89 rfl rfl)⟩
set_option maxRecDepth 100000 in
theorem nw_Wt_7 : rn_Nw "WeightedTrees" 7 1 2 [.null, .int 0] := ⟨_, _, _, cl_Dr, (rn_in 25 rfl rfl), (rn_in 26 rfl rfl), (rn_in 2 rfl rfl), by decide +kernel, fun _ => ⟨_, _, rfl, rfl, ⟨_, _, rfl, rfl, rfl⟩⟩⟩
set_option maxRecDepth 100000 in
theorem nw_Wt_16 : rn_Nw "WeightedTrees" 16 2 10 [.null, .null, .null, .null, .null, .null, .int 0, .null, .null, .null] := ⟨_, _, _, cl_Ch, (rn_in 42 rfl rfl), (rn_in 43 rfl rfl), (rn_in 3 rfl rfl), by decide +kernel, fun _ => ⟨_, _, rfl, rfl, ⟨_, _, rfl, rfl, ⟨_, _, rfl, rfl, ⟨_, _, rfl, rfl, ⟨_, _, rfl, rfl, ⟨_, _, rfl, rfl, ⟨_, _, rfl, rfl, ⟨_, _, rfl, rfl, ⟨_, _, rfl, rfl, ⟨_, _, rfl, rfl, rfl⟩⟩⟩⟩⟩⟩⟩⟩⟩⟩⟩
set_option maxRecDepth 100000 in
theorem nw_Wt_23 : rn_Nw "WeightedTrees" 23 3 1 [.null] := ⟨_, _, _, cl_Ut, (rn_in 90 rfl rfl), (rn_in 91 rfl rfl), (rn_in 4 rfl rfl), by decide +kernel, fun _ => ⟨_, _, rfl, rfl, rfl⟩⟩
set_option maxRecDepth 100000 in
theorem nw_Wt_30 : rn_Nw "WeightedTrees" 30 4 5 [.null, .null, .null, .null, .int 0] := ⟨_, _, _, cl_Tl, (rn_in 100 rfl rfl), (rn_in 101 rfl rfl), (rn_in 5 rfl rfl), by decide +kernel, fun _ => ⟨_, _, rfl, rfl, ⟨_, _, rfl, rfl, ⟨_, _, rfl, rfl, ⟨_, _, rfl, rfl, ⟨_, _, rfl, rfl, rfl⟩⟩⟩⟩⟩⟩
set_option maxRecDepth 100000 in
theorem nw_Wt_37 : rn_Nw "WeightedTrees" 37 5 10 [.null, .null, .null, .null, .null, .null, .null, .int 0, .int 0, .null] := ⟨_, _, _, cl_Gr, (rn_in 126 rfl rfl), (rn_in 127 rfl rfl), (rn_in 6 rfl rfl), by decide +kernel, fun _ => ⟨_, _, rfl, rfl, ⟨_, _, rfl, rfl, ⟨_, _, rfl, rfl, ⟨_, _, rfl, rfl, ⟨_, _, rfl, rfl, ⟨_, _, rfl, rfl, ⟨_, _, rfl, rfl, ⟨_, _, rfl, rfl, ⟨_, _, rfl, rfl, ⟨_, _, rfl, rfl, rfl⟩⟩⟩⟩⟩⟩⟩⟩⟩⟩⟩
end
section
abbrev tX : Type := Int32
abbrev tD : Type := (Nat → Int32) × Int32
def D_characters (d9 : tD) : Nat → Int32 := d9.1
def D_length (d9 : tD) : Int32 := d9.2
abbrev tC : Type := (Nat → Int64) × (Nat → Int32) × (Nat → Int32) × (Nat → Int32) × (Nat → Int32) × (Nat → Int32) × Int32 × (Nat → Nat → Int64) × (Nat → Nat → Int32) × (Nat → Nat → Int32)
def C_sums (c9 : tC) : Nat → Int64 := c9.1
def C_costs (c9 : tC) : Nat → Int32 := c9.2.1
def C_rules (c9 : tC) : Nat → Int32 := c9.2.2.1
def C_sizes (c9 : tC) : Nat → Int32 := c9.2.2.2.1
def C_lengths (c9 : tC) : Nat → Int32 := c9.2.2.2.2.1
def C_letters (c9 : tC) : Nat → Int32 := c9.2.2.2.2.2.1
def C_textLength (c9 : tC) : Int32 := c9.2.2.2.2.2.2.1
def C_restSums (c9 : tC) : Nat → Nat → Int64 := c9.2.2.2.2.2.2.2.1
def C_restCosts (c9 : tC) : Nat → Nat → Int32 := c9.2.2.2.2.2.2.2.2.1
def C_restLengths (c9 : tC) : Nat → Nat → Int32 := c9.2.2.2.2.2.2.2.2.2
abbrev tU : Type := Nat → Int64
abbrev tT : Type := (Nat → Int32) × (Nat → Int32) × (Nat → Int32) × (Nat → Int32) × Int32
def T_rules (t9 : tT) : Nat → Int32 := t9.1
def T_starts (t9 : tT) : Nat → Int32 := t9.2.1
def T_ends (t9 : tT) : Nat → Int32 := t9.2.2.1
def T_symbols (t9 : tT) : Nat → Int32 := t9.2.2.2.1
def T_nodeCount (t9 : tT) : Int32 := t9.2.2.2.2
abbrev tG : Type := (Nat → Int32) × (Nat → Int32) × (Nat → Int32) × (Nat → Int64) × (Nat → Int32) × (Nat → Int32) × (Nat → Int32) × Int32 × Int32 × (Nat → Int32)
def G_heads (g9 : tG) : Nat → Int32 := g9.1
def G_bodies (g9 : tG) : Nat → Int32 := g9.2.1
def G_bodyLengths (g9 : tG) : Nat → Int32 := g9.2.2.1
def G_weights (g9 : tG) : Nat → Int64 := g9.2.2.2.1
def G_costs (g9 : tG) : Nat → Int32 := g9.2.2.2.2.1
def G_capitals (g9 : tG) : Nat → Int32 := g9.2.2.2.2.2.1
def G_order (g9 : tG) : Nat → Int32 := g9.2.2.2.2.2.2.1
def G_ruleCount (g9 : tG) : Int32 := g9.2.2.2.2.2.2.2.1
def G_nonterminalCount (g9 : tG) : Int32 := g9.2.2.2.2.2.2.2.2.1
def G_reached (g9 : tG) : Nat → Int32 := g9.2.2.2.2.2.2.2.2.2
abbrev tM : Type := Int32 × (Nat → Int32) × Int32 × (Nat → Int32) × (Nat → Int32) × Int32 × Int32 × Int32 × Int32 × (Nat → Int32) × (Nat → Int32) × (Nat → Int32) × (Nat → Int64) × (Nat → Int32) × Int32 × (Nat → Int32) × Int32 × Int32 × (Nat → Int32) × (Nat → Int64) × (Nat → Int32) × (Nat → Int64) × (Nat → Int32) × (Nat → Int64) × (Nat → Int64) × (Nat → Int64) × (Nat → Int32) × Int32 × (Nat → Int32) × (Nat → Int32) × (Nat → Int32) × (Nat → Int32) × Int32 × Int32 × Int32
def M_code (m9 : tM) : Int32 := m9.1
def M_draft (m9 : tM) : Nat → Int32 := m9.2.1
def M_size (m9 : tM) : Int32 := m9.2.2.1
def M_src (m9 : tM) : Nat → Int32 := m9.2.2.2.1
def M_kept (m9 : tM) : Nat → Int32 := m9.2.2.2.2.1
def M_keptSize (m9 : tM) : Int32 := m9.2.2.2.2.2.1
def M_loaded (m9 : tM) : Int32 := m9.2.2.2.2.2.2.1
def M_wrongLine (m9 : tM) : Int32 := m9.2.2.2.2.2.2.2.1
def M_rules (m9 : tM) : Int32 := m9.2.2.2.2.2.2.2.2.1
def M_heads (m9 : tM) : Nat → Int32 := m9.2.2.2.2.2.2.2.2.2.1
def M_lengths (m9 : tM) : Nat → Int32 := m9.2.2.2.2.2.2.2.2.2.2.1
def M_bodies (m9 : tM) : Nat → Int32 := m9.2.2.2.2.2.2.2.2.2.2.2.1
def M_weights (m9 : tM) : Nat → Int64 := m9.2.2.2.2.2.2.2.2.2.2.2.2.1
def M_costs (m9 : tM) : Nat → Int32 := m9.2.2.2.2.2.2.2.2.2.2.2.2.2.1
def M_symbols (m9 : tM) : Int32 := m9.2.2.2.2.2.2.2.2.2.2.2.2.2.2.1
def M_names (m9 : tM) : Nat → Int32 := m9.2.2.2.2.2.2.2.2.2.2.2.2.2.2.2.1
def M_hasText (m9 : tM) : Int32 := m9.2.2.2.2.2.2.2.2.2.2.2.2.2.2.2.2.1
def M_letters (m9 : tM) : Int32 := m9.2.2.2.2.2.2.2.2.2.2.2.2.2.2.2.2.2.1
def M_text (m9 : tM) : Nat → Int32 := m9.2.2.2.2.2.2.2.2.2.2.2.2.2.2.2.2.2.2.1
def M_emptySum (m9 : tM) : Nat → Int64 := m9.2.2.2.2.2.2.2.2.2.2.2.2.2.2.2.2.2.2.2.1
def M_emptyCost (m9 : tM) : Nat → Int32 := m9.2.2.2.2.2.2.2.2.2.2.2.2.2.2.2.2.2.2.2.2.1
def M_sums (m9 : tM) : Nat → Int64 := m9.2.2.2.2.2.2.2.2.2.2.2.2.2.2.2.2.2.2.2.2.2.1
def M_least (m9 : tM) : Nat → Int32 := m9.2.2.2.2.2.2.2.2.2.2.2.2.2.2.2.2.2.2.2.2.2.2.1
def M_units (m9 : tM) : Nat → Int64 := m9.2.2.2.2.2.2.2.2.2.2.2.2.2.2.2.2.2.2.2.2.2.2.2.1
def M_upTo (m9 : tM) : Nat → Int64 := m9.2.2.2.2.2.2.2.2.2.2.2.2.2.2.2.2.2.2.2.2.2.2.2.2.1
def M_upToNext (m9 : tM) : Nat → Int64 := m9.2.2.2.2.2.2.2.2.2.2.2.2.2.2.2.2.2.2.2.2.2.2.2.2.2.1
def M_rest (m9 : tM) : Nat → Int32 := m9.2.2.2.2.2.2.2.2.2.2.2.2.2.2.2.2.2.2.2.2.2.2.2.2.2.2.1
def M_nodes (m9 : tM) : Int32 := m9.2.2.2.2.2.2.2.2.2.2.2.2.2.2.2.2.2.2.2.2.2.2.2.2.2.2.2.1
def M_nodeRule (m9 : tM) : Nat → Int32 := m9.2.2.2.2.2.2.2.2.2.2.2.2.2.2.2.2.2.2.2.2.2.2.2.2.2.2.2.2.1
def M_nodeFrom (m9 : tM) : Nat → Int32 := m9.2.2.2.2.2.2.2.2.2.2.2.2.2.2.2.2.2.2.2.2.2.2.2.2.2.2.2.2.2.1
def M_nodeTo (m9 : tM) : Nat → Int32 := m9.2.2.2.2.2.2.2.2.2.2.2.2.2.2.2.2.2.2.2.2.2.2.2.2.2.2.2.2.2.2.1
def M_waits (m9 : tM) : Nat → Int32 := m9.2.2.2.2.2.2.2.2.2.2.2.2.2.2.2.2.2.2.2.2.2.2.2.2.2.2.2.2.2.2.2.1
def M_at (m9 : tM) : Int32 := m9.2.2.2.2.2.2.2.2.2.2.2.2.2.2.2.2.2.2.2.2.2.2.2.2.2.2.2.2.2.2.2.2.1
def M_end (m9 : tM) : Int32 := m9.2.2.2.2.2.2.2.2.2.2.2.2.2.2.2.2.2.2.2.2.2.2.2.2.2.2.2.2.2.2.2.2.2.1
def M_value (m9 : tM) : Int32 := m9.2.2.2.2.2.2.2.2.2.2.2.2.2.2.2.2.2.2.2.2.2.2.2.2.2.2.2.2.2.2.2.2.2.2
abbrev tO : Type := Nat → Int64
abbrev tR : Type := Int32 × Int32
def R_at (r9 : tR) : Int32 := r9.1
def R_end (r9 : tR) : Int32 := r9.2
def emb (g1 g2 : Nat) (x : tX) (d : tD) (c : tC) (u : tU) (t : tT) (a : tG) (b : tG) (m : tM) (o : tO) (E : List rn_C) : List rn_C := rn_s ::
  rn_o 0 [.ref 2, .ref 4, .ref 28, .ref 30, .ref g1, .ref g2, .int (x)] ::
  rn_o 1 [.ref 3, .int (D_length d)] ::
  rn_i .char 300 (D_characters d) ::
  rn_o 2 [.ref 5, .ref 6, .ref 7, .ref 8, .ref 9, .ref 10, .int (C_textLength c), .ref 11, .ref 17, .ref 23] ::
  rn_l 390 (C_sums c) ::
  rn_i .int 390 (C_costs c) ::
  rn_i .int 390 (C_rules c) ::
  rn_i .int 390 (C_sizes c) ::
  rn_i .int 390 (C_lengths c) ::
  rn_i .char 8 (C_letters c) ::
  rn_q (.array .long) [some 12, some 13, some 14, some 15, some 16] ::
  rn_l 9 (C_restSums c 0) ::
  rn_l 9 (C_restSums c 1) ::
  rn_l 9 (C_restSums c 2) ::
  rn_l 9 (C_restSums c 3) ::
  rn_l 9 (C_restSums c 4) ::
  rn_q (.array .int) [some 18, some 19, some 20, some 21, some 22] ::
  rn_i .int 9 (C_restCosts c 0) ::
  rn_i .int 9 (C_restCosts c 1) ::
  rn_i .int 9 (C_restCosts c 2) ::
  rn_i .int 9 (C_restCosts c 3) ::
  rn_i .int 9 (C_restCosts c 4) ::
  rn_q (.array .int) [some 24, some 25, some 26, some 27] ::
  rn_i .int 9 (C_restLengths c 0) ::
  rn_i .int 9 (C_restLengths c 1) ::
  rn_i .int 9 (C_restLengths c 2) ::
  rn_i .int 9 (C_restLengths c 3) ::
  rn_o 3 [.ref 29] ::
  rn_l 36 (u) ::
  rn_o 4 [.ref 31, .ref 32, .ref 33, .ref 34, .int (T_nodeCount t)] ::
  rn_i .int 100 (T_rules t) ::
  rn_i .int 100 (T_starts t) ::
  rn_i .int 100 (T_ends t) ::
  rn_i .int 100 (T_symbols t) ::
  rn_o 5 [.ref 36, .ref 37, .ref 38, .ref 39, .ref 40, .ref 41, .ref 42, .int (G_ruleCount a), .int (G_nonterminalCount a), .ref 43] ::
  rn_i .int 12 (G_heads a) ::
  rn_i .int 48 (G_bodies a) ::
  rn_i .int 12 (G_bodyLengths a) ::
  rn_l 12 (G_weights a) ::
  rn_i .int 12 (G_costs a) ::
  rn_i .int 6 (G_capitals a) ::
  rn_i .int 6 (G_order a) ::
  rn_i .int 6 (G_reached a) ::
  rn_o 5 [.ref 45, .ref 46, .ref 47, .ref 48, .ref 49, .ref 50, .ref 51, .int (G_ruleCount b), .int (G_nonterminalCount b), .ref 52] ::
  rn_i .int 12 (G_heads b) ::
  rn_i .int 48 (G_bodies b) ::
  rn_i .int 12 (G_bodyLengths b) ::
  rn_l 12 (G_weights b) ::
  rn_i .int 12 (G_costs b) ::
  rn_i .int 6 (G_capitals b) ::
  rn_i .int 6 (G_order b) ::
  rn_i .int 6 (G_reached b) ::
  rn_o 7 [.int (M_code m), .ref 54, .int (M_size m), .ref 55, .ref 56, .int (M_keptSize m), .int (M_loaded m), .int (M_wrongLine m), .int (M_rules m), .ref 57, .ref 58, .ref 59, .ref 60, .ref 61, .int (M_symbols m), .ref 62, .int (M_hasText m), .int (M_letters m), .ref 63, .ref 64, .ref 65, .ref 66, .ref 67, .ref 68, .ref 69, .ref 70, .ref 71, .int (M_nodes m), .ref 72, .ref 73, .ref 74, .ref 75, .int (M_at m), .int (M_end m), .int (M_value m)] ::
  rn_i .int 300 (M_draft m) ::
  rn_i .int 300 (M_src m) ::
  rn_i .int 300 (M_kept m) ::
  rn_i .int 12 (M_heads m) ::
  rn_i .int 12 (M_lengths m) ::
  rn_i .int 48 (M_bodies m) ::
  rn_l 12 (M_weights m) ::
  rn_i .int 12 (M_costs m) ::
  rn_i .int 6 (M_names m) ::
  rn_i .int 8 (M_text m) ::
  rn_l 6 (M_emptySum m) ::
  rn_i .int 6 (M_emptyCost m) ::
  rn_l 486 (M_sums m) ::
  rn_i .int 486 (M_least m) ::
  rn_l 36 (M_units m) ::
  rn_l 10 (M_upTo m) ::
  rn_l 10 (M_upToNext m) ::
  rn_i .int 50 (M_rest m) ::
  rn_i .int 100 (M_nodeRule m) ::
  rn_i .int 100 (M_nodeFrom m) ::
  rn_i .int 100 (M_nodeTo m) ::
  rn_i .int 1500 (M_waits m) ::
  rn_l 1 (o) :: E
def rd_cell (r : tR) : rn_C := rn_o 6 [.ref 2, .ref 44, .int (R_at r), .int (R_end r)]
theorem aq_restSums {i : Int32} {j : Nat} (h : aI 5 i = some j) : [some 12, some 13, some 14, some 15, some 16][i.toNatClampNeg]? = some (some (12 + j)) := by
  obtain ⟨-, e, h⟩ := aI_some h
  rw [e]
  rcases j with _ | j
  · rfl
  rcases j with _ | j
  · rfl
  rcases j with _ | j
  · rfl
  rcases j with _ | j
  · rfl
  rcases j with _ | j
  · rfl
  omega
theorem ag_restSums {g1 g2 : Nat} {x : tX} {d : tD} {c : tC} {u : tU} {t : tT} {a : tG} {b : tG} {m : tM} {o : tO} {E : List rn_C} {i : Int32} {j : Nat} (h : aI 5 i = some j) : (emb g1 g2 x d c u t a b m o E)[12 + j]? = some (rn_l 9 (C_restSums c j)) := by
  obtain ⟨-, -, h⟩ := aI_some h
  rcases j with _ | j
  · rfl
  rcases j with _ | j
  · rfl
  rcases j with _ | j
  · rfl
  rcases j with _ | j
  · rfl
  rcases j with _ | j
  · rfl
  omega
theorem as_restSums {g1 g2 : Nat} {x : tX} {d : tD} {c : tC} {u : tU} {t : tT} {a : tG} {b : tG} {m : tM} {o : tO} {E : List rn_C} {i : Int32} {j : Nat} {f : Nat → Int64} (h : aI 5 i = some j) : (emb g1 g2 x d c u t a b m o E).set (12 + j) (rn_l 9 f) = emb g1 g2 x d (C_sums c, C_costs c, C_rules c, C_sizes c, C_lengths c, C_letters c, C_textLength c, up2 (C_restSums c) j f, C_restCosts c, C_restLengths c) u t a b m o E := by
  obtain ⟨-, -, h⟩ := aI_some h
  rcases j with _ | j
  · rfl
  rcases j with _ | j
  · rfl
  rcases j with _ | j
  · rfl
  rcases j with _ | j
  · rfl
  rcases j with _ | j
  · rfl
  omega
theorem aq_restCosts {i : Int32} {j : Nat} (h : aI 5 i = some j) : [some 18, some 19, some 20, some 21, some 22][i.toNatClampNeg]? = some (some (18 + j)) := by
  obtain ⟨-, e, h⟩ := aI_some h
  rw [e]
  rcases j with _ | j
  · rfl
  rcases j with _ | j
  · rfl
  rcases j with _ | j
  · rfl
  rcases j with _ | j
  · rfl
  rcases j with _ | j
  · rfl
  omega
theorem ag_restCosts {g1 g2 : Nat} {x : tX} {d : tD} {c : tC} {u : tU} {t : tT} {a : tG} {b : tG} {m : tM} {o : tO} {E : List rn_C} {i : Int32} {j : Nat} (h : aI 5 i = some j) : (emb g1 g2 x d c u t a b m o E)[18 + j]? = some (rn_i .int 9 (C_restCosts c j)) := by
  obtain ⟨-, -, h⟩ := aI_some h
  rcases j with _ | j
  · rfl
  rcases j with _ | j
  · rfl
  rcases j with _ | j
  · rfl
  rcases j with _ | j
  · rfl
  rcases j with _ | j
  · rfl
  omega
theorem as_restCosts {g1 g2 : Nat} {x : tX} {d : tD} {c : tC} {u : tU} {t : tT} {a : tG} {b : tG} {m : tM} {o : tO} {E : List rn_C} {i : Int32} {j : Nat} {f : Nat → Int32} (h : aI 5 i = some j) : (emb g1 g2 x d c u t a b m o E).set (18 + j) (rn_i .int 9 f) = emb g1 g2 x d (C_sums c, C_costs c, C_rules c, C_sizes c, C_lengths c, C_letters c, C_textLength c, C_restSums c, up2 (C_restCosts c) j f, C_restLengths c) u t a b m o E := by
  obtain ⟨-, -, h⟩ := aI_some h
  rcases j with _ | j
  · rfl
  rcases j with _ | j
  · rfl
  rcases j with _ | j
  · rfl
  rcases j with _ | j
  · rfl
  rcases j with _ | j
  · rfl
  omega
theorem aq_restLengths {i : Int32} {j : Nat} (h : aI 4 i = some j) : [some 24, some 25, some 26, some 27][i.toNatClampNeg]? = some (some (24 + j)) := by
  obtain ⟨-, e, h⟩ := aI_some h
  rw [e]
  rcases j with _ | j
  · rfl
  rcases j with _ | j
  · rfl
  rcases j with _ | j
  · rfl
  rcases j with _ | j
  · rfl
  omega
theorem ag_restLengths {g1 g2 : Nat} {x : tX} {d : tD} {c : tC} {u : tU} {t : tT} {a : tG} {b : tG} {m : tM} {o : tO} {E : List rn_C} {i : Int32} {j : Nat} (h : aI 4 i = some j) : (emb g1 g2 x d c u t a b m o E)[24 + j]? = some (rn_i .int 9 (C_restLengths c j)) := by
  obtain ⟨-, -, h⟩ := aI_some h
  rcases j with _ | j
  · rfl
  rcases j with _ | j
  · rfl
  rcases j with _ | j
  · rfl
  rcases j with _ | j
  · rfl
  omega
theorem as_restLengths {g1 g2 : Nat} {x : tX} {d : tD} {c : tC} {u : tU} {t : tT} {a : tG} {b : tG} {m : tM} {o : tO} {E : List rn_C} {i : Int32} {j : Nat} {f : Nat → Int32} (h : aI 4 i = some j) : (emb g1 g2 x d c u t a b m o E).set (24 + j) (rn_i .int 9 f) = emb g1 g2 x d (C_sums c, C_costs c, C_rules c, C_sizes c, C_lengths c, C_letters c, C_textLength c, C_restSums c, C_restCosts c, up2 (C_restLengths c) j f) u t a b m o E := by
  obtain ⟨-, -, h⟩ := aI_some h
  rcases j with _ | j
  · rfl
  rcases j with _ | j
  · rfl
  rcases j with _ | j
  · rfl
  rcases j with _ | j
  · rfl
  omega
def M_put_code (m : tM) (v : Int32) : tM := (v, M_draft m, M_size m, M_src m, M_kept m, M_keptSize m, M_loaded m, M_wrongLine m, M_rules m, M_heads m, M_lengths m, M_bodies m, M_weights m, M_costs m, M_symbols m, M_names m, M_hasText m, M_letters m, M_text m, M_emptySum m, M_emptyCost m, M_sums m, M_least m, M_units m, M_upTo m, M_upToNext m, M_rest m, M_nodes m, M_nodeRule m, M_nodeFrom m, M_nodeTo m, M_waits m, M_at m, M_end m, M_value m)
theorem sm_code {g1 g2 : Nat} {x : tX} {d : tD} {c : tC} {u : tU} {t : tT} {a : tG} {b : tG} {m : tM} {o : tO} {E : List rn_C} {v : Int32} : (emb g1 g2 x d c u t a b m o E).set 53 (rn_o 7 (List.set [.int (M_code m), .ref 54, .int (M_size m), .ref 55, .ref 56, .int (M_keptSize m), .int (M_loaded m), .int (M_wrongLine m), .int (M_rules m), .ref 57, .ref 58, .ref 59, .ref 60, .ref 61, .int (M_symbols m), .ref 62, .int (M_hasText m), .int (M_letters m), .ref 63, .ref 64, .ref 65, .ref 66, .ref 67, .ref 68, .ref 69, .ref 70, .ref 71, .int (M_nodes m), .ref 72, .ref 73, .ref 74, .ref 75, .int (M_at m), .int (M_end m), .int (M_value m)] 0 (.int v))) = emb g1 g2 x d c u t a b (M_put_code m v) o E := rfl
def M_put_draft (m : tM) (v : Nat → Int32) : tM := (M_code m, v, M_size m, M_src m, M_kept m, M_keptSize m, M_loaded m, M_wrongLine m, M_rules m, M_heads m, M_lengths m, M_bodies m, M_weights m, M_costs m, M_symbols m, M_names m, M_hasText m, M_letters m, M_text m, M_emptySum m, M_emptyCost m, M_sums m, M_least m, M_units m, M_upTo m, M_upToNext m, M_rest m, M_nodes m, M_nodeRule m, M_nodeFrom m, M_nodeTo m, M_waits m, M_at m, M_end m, M_value m)
theorem sm_draft {g1 g2 : Nat} {x : tX} {d : tD} {c : tC} {u : tU} {t : tT} {a : tG} {b : tG} {m : tM} {o : tO} {E : List rn_C} {v : Nat → Int32} : (emb g1 g2 x d c u t a b m o E).set 54 (rn_i .int 300 v) = emb g1 g2 x d c u t a b (M_put_draft m v) o E := rfl
def M_put_size (m : tM) (v : Int32) : tM := (M_code m, M_draft m, v, M_src m, M_kept m, M_keptSize m, M_loaded m, M_wrongLine m, M_rules m, M_heads m, M_lengths m, M_bodies m, M_weights m, M_costs m, M_symbols m, M_names m, M_hasText m, M_letters m, M_text m, M_emptySum m, M_emptyCost m, M_sums m, M_least m, M_units m, M_upTo m, M_upToNext m, M_rest m, M_nodes m, M_nodeRule m, M_nodeFrom m, M_nodeTo m, M_waits m, M_at m, M_end m, M_value m)
theorem sm_size {g1 g2 : Nat} {x : tX} {d : tD} {c : tC} {u : tU} {t : tT} {a : tG} {b : tG} {m : tM} {o : tO} {E : List rn_C} {v : Int32} : (emb g1 g2 x d c u t a b m o E).set 53 (rn_o 7 (List.set [.int (M_code m), .ref 54, .int (M_size m), .ref 55, .ref 56, .int (M_keptSize m), .int (M_loaded m), .int (M_wrongLine m), .int (M_rules m), .ref 57, .ref 58, .ref 59, .ref 60, .ref 61, .int (M_symbols m), .ref 62, .int (M_hasText m), .int (M_letters m), .ref 63, .ref 64, .ref 65, .ref 66, .ref 67, .ref 68, .ref 69, .ref 70, .ref 71, .int (M_nodes m), .ref 72, .ref 73, .ref 74, .ref 75, .int (M_at m), .int (M_end m), .int (M_value m)] 2 (.int v))) = emb g1 g2 x d c u t a b (M_put_size m v) o E := rfl
def M_put_src (m : tM) (v : Nat → Int32) : tM := (M_code m, M_draft m, M_size m, v, M_kept m, M_keptSize m, M_loaded m, M_wrongLine m, M_rules m, M_heads m, M_lengths m, M_bodies m, M_weights m, M_costs m, M_symbols m, M_names m, M_hasText m, M_letters m, M_text m, M_emptySum m, M_emptyCost m, M_sums m, M_least m, M_units m, M_upTo m, M_upToNext m, M_rest m, M_nodes m, M_nodeRule m, M_nodeFrom m, M_nodeTo m, M_waits m, M_at m, M_end m, M_value m)
theorem sm_src {g1 g2 : Nat} {x : tX} {d : tD} {c : tC} {u : tU} {t : tT} {a : tG} {b : tG} {m : tM} {o : tO} {E : List rn_C} {v : Nat → Int32} : (emb g1 g2 x d c u t a b m o E).set 55 (rn_i .int 300 v) = emb g1 g2 x d c u t a b (M_put_src m v) o E := rfl
def M_put_kept (m : tM) (v : Nat → Int32) : tM := (M_code m, M_draft m, M_size m, M_src m, v, M_keptSize m, M_loaded m, M_wrongLine m, M_rules m, M_heads m, M_lengths m, M_bodies m, M_weights m, M_costs m, M_symbols m, M_names m, M_hasText m, M_letters m, M_text m, M_emptySum m, M_emptyCost m, M_sums m, M_least m, M_units m, M_upTo m, M_upToNext m, M_rest m, M_nodes m, M_nodeRule m, M_nodeFrom m, M_nodeTo m, M_waits m, M_at m, M_end m, M_value m)
theorem sm_kept {g1 g2 : Nat} {x : tX} {d : tD} {c : tC} {u : tU} {t : tT} {a : tG} {b : tG} {m : tM} {o : tO} {E : List rn_C} {v : Nat → Int32} : (emb g1 g2 x d c u t a b m o E).set 56 (rn_i .int 300 v) = emb g1 g2 x d c u t a b (M_put_kept m v) o E := rfl
def M_put_keptSize (m : tM) (v : Int32) : tM := (M_code m, M_draft m, M_size m, M_src m, M_kept m, v, M_loaded m, M_wrongLine m, M_rules m, M_heads m, M_lengths m, M_bodies m, M_weights m, M_costs m, M_symbols m, M_names m, M_hasText m, M_letters m, M_text m, M_emptySum m, M_emptyCost m, M_sums m, M_least m, M_units m, M_upTo m, M_upToNext m, M_rest m, M_nodes m, M_nodeRule m, M_nodeFrom m, M_nodeTo m, M_waits m, M_at m, M_end m, M_value m)
theorem sm_keptSize {g1 g2 : Nat} {x : tX} {d : tD} {c : tC} {u : tU} {t : tT} {a : tG} {b : tG} {m : tM} {o : tO} {E : List rn_C} {v : Int32} : (emb g1 g2 x d c u t a b m o E).set 53 (rn_o 7 (List.set [.int (M_code m), .ref 54, .int (M_size m), .ref 55, .ref 56, .int (M_keptSize m), .int (M_loaded m), .int (M_wrongLine m), .int (M_rules m), .ref 57, .ref 58, .ref 59, .ref 60, .ref 61, .int (M_symbols m), .ref 62, .int (M_hasText m), .int (M_letters m), .ref 63, .ref 64, .ref 65, .ref 66, .ref 67, .ref 68, .ref 69, .ref 70, .ref 71, .int (M_nodes m), .ref 72, .ref 73, .ref 74, .ref 75, .int (M_at m), .int (M_end m), .int (M_value m)] 5 (.int v))) = emb g1 g2 x d c u t a b (M_put_keptSize m v) o E := rfl
def M_put_loaded (m : tM) (v : Int32) : tM := (M_code m, M_draft m, M_size m, M_src m, M_kept m, M_keptSize m, v, M_wrongLine m, M_rules m, M_heads m, M_lengths m, M_bodies m, M_weights m, M_costs m, M_symbols m, M_names m, M_hasText m, M_letters m, M_text m, M_emptySum m, M_emptyCost m, M_sums m, M_least m, M_units m, M_upTo m, M_upToNext m, M_rest m, M_nodes m, M_nodeRule m, M_nodeFrom m, M_nodeTo m, M_waits m, M_at m, M_end m, M_value m)
theorem sm_loaded {g1 g2 : Nat} {x : tX} {d : tD} {c : tC} {u : tU} {t : tT} {a : tG} {b : tG} {m : tM} {o : tO} {E : List rn_C} {v : Int32} : (emb g1 g2 x d c u t a b m o E).set 53 (rn_o 7 (List.set [.int (M_code m), .ref 54, .int (M_size m), .ref 55, .ref 56, .int (M_keptSize m), .int (M_loaded m), .int (M_wrongLine m), .int (M_rules m), .ref 57, .ref 58, .ref 59, .ref 60, .ref 61, .int (M_symbols m), .ref 62, .int (M_hasText m), .int (M_letters m), .ref 63, .ref 64, .ref 65, .ref 66, .ref 67, .ref 68, .ref 69, .ref 70, .ref 71, .int (M_nodes m), .ref 72, .ref 73, .ref 74, .ref 75, .int (M_at m), .int (M_end m), .int (M_value m)] 6 (.int v))) = emb g1 g2 x d c u t a b (M_put_loaded m v) o E := rfl
def M_put_wrongLine (m : tM) (v : Int32) : tM := (M_code m, M_draft m, M_size m, M_src m, M_kept m, M_keptSize m, M_loaded m, v, M_rules m, M_heads m, M_lengths m, M_bodies m, M_weights m, M_costs m, M_symbols m, M_names m, M_hasText m, M_letters m, M_text m, M_emptySum m, M_emptyCost m, M_sums m, M_least m, M_units m, M_upTo m, M_upToNext m, M_rest m, M_nodes m, M_nodeRule m, M_nodeFrom m, M_nodeTo m, M_waits m, M_at m, M_end m, M_value m)
theorem sm_wrongLine {g1 g2 : Nat} {x : tX} {d : tD} {c : tC} {u : tU} {t : tT} {a : tG} {b : tG} {m : tM} {o : tO} {E : List rn_C} {v : Int32} : (emb g1 g2 x d c u t a b m o E).set 53 (rn_o 7 (List.set [.int (M_code m), .ref 54, .int (M_size m), .ref 55, .ref 56, .int (M_keptSize m), .int (M_loaded m), .int (M_wrongLine m), .int (M_rules m), .ref 57, .ref 58, .ref 59, .ref 60, .ref 61, .int (M_symbols m), .ref 62, .int (M_hasText m), .int (M_letters m), .ref 63, .ref 64, .ref 65, .ref 66, .ref 67, .ref 68, .ref 69, .ref 70, .ref 71, .int (M_nodes m), .ref 72, .ref 73, .ref 74, .ref 75, .int (M_at m), .int (M_end m), .int (M_value m)] 7 (.int v))) = emb g1 g2 x d c u t a b (M_put_wrongLine m v) o E := rfl
def M_put_rules (m : tM) (v : Int32) : tM := (M_code m, M_draft m, M_size m, M_src m, M_kept m, M_keptSize m, M_loaded m, M_wrongLine m, v, M_heads m, M_lengths m, M_bodies m, M_weights m, M_costs m, M_symbols m, M_names m, M_hasText m, M_letters m, M_text m, M_emptySum m, M_emptyCost m, M_sums m, M_least m, M_units m, M_upTo m, M_upToNext m, M_rest m, M_nodes m, M_nodeRule m, M_nodeFrom m, M_nodeTo m, M_waits m, M_at m, M_end m, M_value m)
theorem sm_rules {g1 g2 : Nat} {x : tX} {d : tD} {c : tC} {u : tU} {t : tT} {a : tG} {b : tG} {m : tM} {o : tO} {E : List rn_C} {v : Int32} : (emb g1 g2 x d c u t a b m o E).set 53 (rn_o 7 (List.set [.int (M_code m), .ref 54, .int (M_size m), .ref 55, .ref 56, .int (M_keptSize m), .int (M_loaded m), .int (M_wrongLine m), .int (M_rules m), .ref 57, .ref 58, .ref 59, .ref 60, .ref 61, .int (M_symbols m), .ref 62, .int (M_hasText m), .int (M_letters m), .ref 63, .ref 64, .ref 65, .ref 66, .ref 67, .ref 68, .ref 69, .ref 70, .ref 71, .int (M_nodes m), .ref 72, .ref 73, .ref 74, .ref 75, .int (M_at m), .int (M_end m), .int (M_value m)] 8 (.int v))) = emb g1 g2 x d c u t a b (M_put_rules m v) o E := rfl
def M_put_heads (m : tM) (v : Nat → Int32) : tM := (M_code m, M_draft m, M_size m, M_src m, M_kept m, M_keptSize m, M_loaded m, M_wrongLine m, M_rules m, v, M_lengths m, M_bodies m, M_weights m, M_costs m, M_symbols m, M_names m, M_hasText m, M_letters m, M_text m, M_emptySum m, M_emptyCost m, M_sums m, M_least m, M_units m, M_upTo m, M_upToNext m, M_rest m, M_nodes m, M_nodeRule m, M_nodeFrom m, M_nodeTo m, M_waits m, M_at m, M_end m, M_value m)
theorem sm_heads {g1 g2 : Nat} {x : tX} {d : tD} {c : tC} {u : tU} {t : tT} {a : tG} {b : tG} {m : tM} {o : tO} {E : List rn_C} {v : Nat → Int32} : (emb g1 g2 x d c u t a b m o E).set 57 (rn_i .int 12 v) = emb g1 g2 x d c u t a b (M_put_heads m v) o E := rfl
def M_put_lengths (m : tM) (v : Nat → Int32) : tM := (M_code m, M_draft m, M_size m, M_src m, M_kept m, M_keptSize m, M_loaded m, M_wrongLine m, M_rules m, M_heads m, v, M_bodies m, M_weights m, M_costs m, M_symbols m, M_names m, M_hasText m, M_letters m, M_text m, M_emptySum m, M_emptyCost m, M_sums m, M_least m, M_units m, M_upTo m, M_upToNext m, M_rest m, M_nodes m, M_nodeRule m, M_nodeFrom m, M_nodeTo m, M_waits m, M_at m, M_end m, M_value m)
theorem sm_lengths {g1 g2 : Nat} {x : tX} {d : tD} {c : tC} {u : tU} {t : tT} {a : tG} {b : tG} {m : tM} {o : tO} {E : List rn_C} {v : Nat → Int32} : (emb g1 g2 x d c u t a b m o E).set 58 (rn_i .int 12 v) = emb g1 g2 x d c u t a b (M_put_lengths m v) o E := rfl
def M_put_bodies (m : tM) (v : Nat → Int32) : tM := (M_code m, M_draft m, M_size m, M_src m, M_kept m, M_keptSize m, M_loaded m, M_wrongLine m, M_rules m, M_heads m, M_lengths m, v, M_weights m, M_costs m, M_symbols m, M_names m, M_hasText m, M_letters m, M_text m, M_emptySum m, M_emptyCost m, M_sums m, M_least m, M_units m, M_upTo m, M_upToNext m, M_rest m, M_nodes m, M_nodeRule m, M_nodeFrom m, M_nodeTo m, M_waits m, M_at m, M_end m, M_value m)
theorem sm_bodies {g1 g2 : Nat} {x : tX} {d : tD} {c : tC} {u : tU} {t : tT} {a : tG} {b : tG} {m : tM} {o : tO} {E : List rn_C} {v : Nat → Int32} : (emb g1 g2 x d c u t a b m o E).set 59 (rn_i .int 48 v) = emb g1 g2 x d c u t a b (M_put_bodies m v) o E := rfl
def M_put_weights (m : tM) (v : Nat → Int64) : tM := (M_code m, M_draft m, M_size m, M_src m, M_kept m, M_keptSize m, M_loaded m, M_wrongLine m, M_rules m, M_heads m, M_lengths m, M_bodies m, v, M_costs m, M_symbols m, M_names m, M_hasText m, M_letters m, M_text m, M_emptySum m, M_emptyCost m, M_sums m, M_least m, M_units m, M_upTo m, M_upToNext m, M_rest m, M_nodes m, M_nodeRule m, M_nodeFrom m, M_nodeTo m, M_waits m, M_at m, M_end m, M_value m)
theorem sm_weights {g1 g2 : Nat} {x : tX} {d : tD} {c : tC} {u : tU} {t : tT} {a : tG} {b : tG} {m : tM} {o : tO} {E : List rn_C} {v : Nat → Int64} : (emb g1 g2 x d c u t a b m o E).set 60 (rn_l 12 v) = emb g1 g2 x d c u t a b (M_put_weights m v) o E := rfl
def M_put_costs (m : tM) (v : Nat → Int32) : tM := (M_code m, M_draft m, M_size m, M_src m, M_kept m, M_keptSize m, M_loaded m, M_wrongLine m, M_rules m, M_heads m, M_lengths m, M_bodies m, M_weights m, v, M_symbols m, M_names m, M_hasText m, M_letters m, M_text m, M_emptySum m, M_emptyCost m, M_sums m, M_least m, M_units m, M_upTo m, M_upToNext m, M_rest m, M_nodes m, M_nodeRule m, M_nodeFrom m, M_nodeTo m, M_waits m, M_at m, M_end m, M_value m)
theorem sm_costs {g1 g2 : Nat} {x : tX} {d : tD} {c : tC} {u : tU} {t : tT} {a : tG} {b : tG} {m : tM} {o : tO} {E : List rn_C} {v : Nat → Int32} : (emb g1 g2 x d c u t a b m o E).set 61 (rn_i .int 12 v) = emb g1 g2 x d c u t a b (M_put_costs m v) o E := rfl
def M_put_symbols (m : tM) (v : Int32) : tM := (M_code m, M_draft m, M_size m, M_src m, M_kept m, M_keptSize m, M_loaded m, M_wrongLine m, M_rules m, M_heads m, M_lengths m, M_bodies m, M_weights m, M_costs m, v, M_names m, M_hasText m, M_letters m, M_text m, M_emptySum m, M_emptyCost m, M_sums m, M_least m, M_units m, M_upTo m, M_upToNext m, M_rest m, M_nodes m, M_nodeRule m, M_nodeFrom m, M_nodeTo m, M_waits m, M_at m, M_end m, M_value m)
theorem sm_symbols {g1 g2 : Nat} {x : tX} {d : tD} {c : tC} {u : tU} {t : tT} {a : tG} {b : tG} {m : tM} {o : tO} {E : List rn_C} {v : Int32} : (emb g1 g2 x d c u t a b m o E).set 53 (rn_o 7 (List.set [.int (M_code m), .ref 54, .int (M_size m), .ref 55, .ref 56, .int (M_keptSize m), .int (M_loaded m), .int (M_wrongLine m), .int (M_rules m), .ref 57, .ref 58, .ref 59, .ref 60, .ref 61, .int (M_symbols m), .ref 62, .int (M_hasText m), .int (M_letters m), .ref 63, .ref 64, .ref 65, .ref 66, .ref 67, .ref 68, .ref 69, .ref 70, .ref 71, .int (M_nodes m), .ref 72, .ref 73, .ref 74, .ref 75, .int (M_at m), .int (M_end m), .int (M_value m)] 14 (.int v))) = emb g1 g2 x d c u t a b (M_put_symbols m v) o E := rfl
def M_put_names (m : tM) (v : Nat → Int32) : tM := (M_code m, M_draft m, M_size m, M_src m, M_kept m, M_keptSize m, M_loaded m, M_wrongLine m, M_rules m, M_heads m, M_lengths m, M_bodies m, M_weights m, M_costs m, M_symbols m, v, M_hasText m, M_letters m, M_text m, M_emptySum m, M_emptyCost m, M_sums m, M_least m, M_units m, M_upTo m, M_upToNext m, M_rest m, M_nodes m, M_nodeRule m, M_nodeFrom m, M_nodeTo m, M_waits m, M_at m, M_end m, M_value m)
theorem sm_names {g1 g2 : Nat} {x : tX} {d : tD} {c : tC} {u : tU} {t : tT} {a : tG} {b : tG} {m : tM} {o : tO} {E : List rn_C} {v : Nat → Int32} : (emb g1 g2 x d c u t a b m o E).set 62 (rn_i .int 6 v) = emb g1 g2 x d c u t a b (M_put_names m v) o E := rfl
def M_put_hasText (m : tM) (v : Int32) : tM := (M_code m, M_draft m, M_size m, M_src m, M_kept m, M_keptSize m, M_loaded m, M_wrongLine m, M_rules m, M_heads m, M_lengths m, M_bodies m, M_weights m, M_costs m, M_symbols m, M_names m, v, M_letters m, M_text m, M_emptySum m, M_emptyCost m, M_sums m, M_least m, M_units m, M_upTo m, M_upToNext m, M_rest m, M_nodes m, M_nodeRule m, M_nodeFrom m, M_nodeTo m, M_waits m, M_at m, M_end m, M_value m)
theorem sm_hasText {g1 g2 : Nat} {x : tX} {d : tD} {c : tC} {u : tU} {t : tT} {a : tG} {b : tG} {m : tM} {o : tO} {E : List rn_C} {v : Int32} : (emb g1 g2 x d c u t a b m o E).set 53 (rn_o 7 (List.set [.int (M_code m), .ref 54, .int (M_size m), .ref 55, .ref 56, .int (M_keptSize m), .int (M_loaded m), .int (M_wrongLine m), .int (M_rules m), .ref 57, .ref 58, .ref 59, .ref 60, .ref 61, .int (M_symbols m), .ref 62, .int (M_hasText m), .int (M_letters m), .ref 63, .ref 64, .ref 65, .ref 66, .ref 67, .ref 68, .ref 69, .ref 70, .ref 71, .int (M_nodes m), .ref 72, .ref 73, .ref 74, .ref 75, .int (M_at m), .int (M_end m), .int (M_value m)] 16 (.int v))) = emb g1 g2 x d c u t a b (M_put_hasText m v) o E := rfl
def M_put_letters (m : tM) (v : Int32) : tM := (M_code m, M_draft m, M_size m, M_src m, M_kept m, M_keptSize m, M_loaded m, M_wrongLine m, M_rules m, M_heads m, M_lengths m, M_bodies m, M_weights m, M_costs m, M_symbols m, M_names m, M_hasText m, v, M_text m, M_emptySum m, M_emptyCost m, M_sums m, M_least m, M_units m, M_upTo m, M_upToNext m, M_rest m, M_nodes m, M_nodeRule m, M_nodeFrom m, M_nodeTo m, M_waits m, M_at m, M_end m, M_value m)
theorem sm_letters {g1 g2 : Nat} {x : tX} {d : tD} {c : tC} {u : tU} {t : tT} {a : tG} {b : tG} {m : tM} {o : tO} {E : List rn_C} {v : Int32} : (emb g1 g2 x d c u t a b m o E).set 53 (rn_o 7 (List.set [.int (M_code m), .ref 54, .int (M_size m), .ref 55, .ref 56, .int (M_keptSize m), .int (M_loaded m), .int (M_wrongLine m), .int (M_rules m), .ref 57, .ref 58, .ref 59, .ref 60, .ref 61, .int (M_symbols m), .ref 62, .int (M_hasText m), .int (M_letters m), .ref 63, .ref 64, .ref 65, .ref 66, .ref 67, .ref 68, .ref 69, .ref 70, .ref 71, .int (M_nodes m), .ref 72, .ref 73, .ref 74, .ref 75, .int (M_at m), .int (M_end m), .int (M_value m)] 17 (.int v))) = emb g1 g2 x d c u t a b (M_put_letters m v) o E := rfl
def M_put_text (m : tM) (v : Nat → Int32) : tM := (M_code m, M_draft m, M_size m, M_src m, M_kept m, M_keptSize m, M_loaded m, M_wrongLine m, M_rules m, M_heads m, M_lengths m, M_bodies m, M_weights m, M_costs m, M_symbols m, M_names m, M_hasText m, M_letters m, v, M_emptySum m, M_emptyCost m, M_sums m, M_least m, M_units m, M_upTo m, M_upToNext m, M_rest m, M_nodes m, M_nodeRule m, M_nodeFrom m, M_nodeTo m, M_waits m, M_at m, M_end m, M_value m)
theorem sm_text {g1 g2 : Nat} {x : tX} {d : tD} {c : tC} {u : tU} {t : tT} {a : tG} {b : tG} {m : tM} {o : tO} {E : List rn_C} {v : Nat → Int32} : (emb g1 g2 x d c u t a b m o E).set 63 (rn_i .int 8 v) = emb g1 g2 x d c u t a b (M_put_text m v) o E := rfl
def M_put_emptySum (m : tM) (v : Nat → Int64) : tM := (M_code m, M_draft m, M_size m, M_src m, M_kept m, M_keptSize m, M_loaded m, M_wrongLine m, M_rules m, M_heads m, M_lengths m, M_bodies m, M_weights m, M_costs m, M_symbols m, M_names m, M_hasText m, M_letters m, M_text m, v, M_emptyCost m, M_sums m, M_least m, M_units m, M_upTo m, M_upToNext m, M_rest m, M_nodes m, M_nodeRule m, M_nodeFrom m, M_nodeTo m, M_waits m, M_at m, M_end m, M_value m)
theorem sm_emptySum {g1 g2 : Nat} {x : tX} {d : tD} {c : tC} {u : tU} {t : tT} {a : tG} {b : tG} {m : tM} {o : tO} {E : List rn_C} {v : Nat → Int64} : (emb g1 g2 x d c u t a b m o E).set 64 (rn_l 6 v) = emb g1 g2 x d c u t a b (M_put_emptySum m v) o E := rfl
def M_put_emptyCost (m : tM) (v : Nat → Int32) : tM := (M_code m, M_draft m, M_size m, M_src m, M_kept m, M_keptSize m, M_loaded m, M_wrongLine m, M_rules m, M_heads m, M_lengths m, M_bodies m, M_weights m, M_costs m, M_symbols m, M_names m, M_hasText m, M_letters m, M_text m, M_emptySum m, v, M_sums m, M_least m, M_units m, M_upTo m, M_upToNext m, M_rest m, M_nodes m, M_nodeRule m, M_nodeFrom m, M_nodeTo m, M_waits m, M_at m, M_end m, M_value m)
theorem sm_emptyCost {g1 g2 : Nat} {x : tX} {d : tD} {c : tC} {u : tU} {t : tT} {a : tG} {b : tG} {m : tM} {o : tO} {E : List rn_C} {v : Nat → Int32} : (emb g1 g2 x d c u t a b m o E).set 65 (rn_i .int 6 v) = emb g1 g2 x d c u t a b (M_put_emptyCost m v) o E := rfl
def M_put_sums (m : tM) (v : Nat → Int64) : tM := (M_code m, M_draft m, M_size m, M_src m, M_kept m, M_keptSize m, M_loaded m, M_wrongLine m, M_rules m, M_heads m, M_lengths m, M_bodies m, M_weights m, M_costs m, M_symbols m, M_names m, M_hasText m, M_letters m, M_text m, M_emptySum m, M_emptyCost m, v, M_least m, M_units m, M_upTo m, M_upToNext m, M_rest m, M_nodes m, M_nodeRule m, M_nodeFrom m, M_nodeTo m, M_waits m, M_at m, M_end m, M_value m)
theorem sm_sums {g1 g2 : Nat} {x : tX} {d : tD} {c : tC} {u : tU} {t : tT} {a : tG} {b : tG} {m : tM} {o : tO} {E : List rn_C} {v : Nat → Int64} : (emb g1 g2 x d c u t a b m o E).set 66 (rn_l 486 v) = emb g1 g2 x d c u t a b (M_put_sums m v) o E := rfl
def M_put_least (m : tM) (v : Nat → Int32) : tM := (M_code m, M_draft m, M_size m, M_src m, M_kept m, M_keptSize m, M_loaded m, M_wrongLine m, M_rules m, M_heads m, M_lengths m, M_bodies m, M_weights m, M_costs m, M_symbols m, M_names m, M_hasText m, M_letters m, M_text m, M_emptySum m, M_emptyCost m, M_sums m, v, M_units m, M_upTo m, M_upToNext m, M_rest m, M_nodes m, M_nodeRule m, M_nodeFrom m, M_nodeTo m, M_waits m, M_at m, M_end m, M_value m)
theorem sm_least {g1 g2 : Nat} {x : tX} {d : tD} {c : tC} {u : tU} {t : tT} {a : tG} {b : tG} {m : tM} {o : tO} {E : List rn_C} {v : Nat → Int32} : (emb g1 g2 x d c u t a b m o E).set 67 (rn_i .int 486 v) = emb g1 g2 x d c u t a b (M_put_least m v) o E := rfl
def M_put_units (m : tM) (v : Nat → Int64) : tM := (M_code m, M_draft m, M_size m, M_src m, M_kept m, M_keptSize m, M_loaded m, M_wrongLine m, M_rules m, M_heads m, M_lengths m, M_bodies m, M_weights m, M_costs m, M_symbols m, M_names m, M_hasText m, M_letters m, M_text m, M_emptySum m, M_emptyCost m, M_sums m, M_least m, v, M_upTo m, M_upToNext m, M_rest m, M_nodes m, M_nodeRule m, M_nodeFrom m, M_nodeTo m, M_waits m, M_at m, M_end m, M_value m)
theorem sm_units {g1 g2 : Nat} {x : tX} {d : tD} {c : tC} {u : tU} {t : tT} {a : tG} {b : tG} {m : tM} {o : tO} {E : List rn_C} {v : Nat → Int64} : (emb g1 g2 x d c u t a b m o E).set 68 (rn_l 36 v) = emb g1 g2 x d c u t a b (M_put_units m v) o E := rfl
def M_put_upTo (m : tM) (v : Nat → Int64) : tM := (M_code m, M_draft m, M_size m, M_src m, M_kept m, M_keptSize m, M_loaded m, M_wrongLine m, M_rules m, M_heads m, M_lengths m, M_bodies m, M_weights m, M_costs m, M_symbols m, M_names m, M_hasText m, M_letters m, M_text m, M_emptySum m, M_emptyCost m, M_sums m, M_least m, M_units m, v, M_upToNext m, M_rest m, M_nodes m, M_nodeRule m, M_nodeFrom m, M_nodeTo m, M_waits m, M_at m, M_end m, M_value m)
theorem sm_upTo {g1 g2 : Nat} {x : tX} {d : tD} {c : tC} {u : tU} {t : tT} {a : tG} {b : tG} {m : tM} {o : tO} {E : List rn_C} {v : Nat → Int64} : (emb g1 g2 x d c u t a b m o E).set 69 (rn_l 10 v) = emb g1 g2 x d c u t a b (M_put_upTo m v) o E := rfl
def M_put_upToNext (m : tM) (v : Nat → Int64) : tM := (M_code m, M_draft m, M_size m, M_src m, M_kept m, M_keptSize m, M_loaded m, M_wrongLine m, M_rules m, M_heads m, M_lengths m, M_bodies m, M_weights m, M_costs m, M_symbols m, M_names m, M_hasText m, M_letters m, M_text m, M_emptySum m, M_emptyCost m, M_sums m, M_least m, M_units m, M_upTo m, v, M_rest m, M_nodes m, M_nodeRule m, M_nodeFrom m, M_nodeTo m, M_waits m, M_at m, M_end m, M_value m)
theorem sm_upToNext {g1 g2 : Nat} {x : tX} {d : tD} {c : tC} {u : tU} {t : tT} {a : tG} {b : tG} {m : tM} {o : tO} {E : List rn_C} {v : Nat → Int64} : (emb g1 g2 x d c u t a b m o E).set 70 (rn_l 10 v) = emb g1 g2 x d c u t a b (M_put_upToNext m v) o E := rfl
def M_put_rest (m : tM) (v : Nat → Int32) : tM := (M_code m, M_draft m, M_size m, M_src m, M_kept m, M_keptSize m, M_loaded m, M_wrongLine m, M_rules m, M_heads m, M_lengths m, M_bodies m, M_weights m, M_costs m, M_symbols m, M_names m, M_hasText m, M_letters m, M_text m, M_emptySum m, M_emptyCost m, M_sums m, M_least m, M_units m, M_upTo m, M_upToNext m, v, M_nodes m, M_nodeRule m, M_nodeFrom m, M_nodeTo m, M_waits m, M_at m, M_end m, M_value m)
theorem sm_rest {g1 g2 : Nat} {x : tX} {d : tD} {c : tC} {u : tU} {t : tT} {a : tG} {b : tG} {m : tM} {o : tO} {E : List rn_C} {v : Nat → Int32} : (emb g1 g2 x d c u t a b m o E).set 71 (rn_i .int 50 v) = emb g1 g2 x d c u t a b (M_put_rest m v) o E := rfl
def M_put_nodes (m : tM) (v : Int32) : tM := (M_code m, M_draft m, M_size m, M_src m, M_kept m, M_keptSize m, M_loaded m, M_wrongLine m, M_rules m, M_heads m, M_lengths m, M_bodies m, M_weights m, M_costs m, M_symbols m, M_names m, M_hasText m, M_letters m, M_text m, M_emptySum m, M_emptyCost m, M_sums m, M_least m, M_units m, M_upTo m, M_upToNext m, M_rest m, v, M_nodeRule m, M_nodeFrom m, M_nodeTo m, M_waits m, M_at m, M_end m, M_value m)
theorem sm_nodes {g1 g2 : Nat} {x : tX} {d : tD} {c : tC} {u : tU} {t : tT} {a : tG} {b : tG} {m : tM} {o : tO} {E : List rn_C} {v : Int32} : (emb g1 g2 x d c u t a b m o E).set 53 (rn_o 7 (List.set [.int (M_code m), .ref 54, .int (M_size m), .ref 55, .ref 56, .int (M_keptSize m), .int (M_loaded m), .int (M_wrongLine m), .int (M_rules m), .ref 57, .ref 58, .ref 59, .ref 60, .ref 61, .int (M_symbols m), .ref 62, .int (M_hasText m), .int (M_letters m), .ref 63, .ref 64, .ref 65, .ref 66, .ref 67, .ref 68, .ref 69, .ref 70, .ref 71, .int (M_nodes m), .ref 72, .ref 73, .ref 74, .ref 75, .int (M_at m), .int (M_end m), .int (M_value m)] 27 (.int v))) = emb g1 g2 x d c u t a b (M_put_nodes m v) o E := rfl
def M_put_nodeRule (m : tM) (v : Nat → Int32) : tM := (M_code m, M_draft m, M_size m, M_src m, M_kept m, M_keptSize m, M_loaded m, M_wrongLine m, M_rules m, M_heads m, M_lengths m, M_bodies m, M_weights m, M_costs m, M_symbols m, M_names m, M_hasText m, M_letters m, M_text m, M_emptySum m, M_emptyCost m, M_sums m, M_least m, M_units m, M_upTo m, M_upToNext m, M_rest m, M_nodes m, v, M_nodeFrom m, M_nodeTo m, M_waits m, M_at m, M_end m, M_value m)
theorem sm_nodeRule {g1 g2 : Nat} {x : tX} {d : tD} {c : tC} {u : tU} {t : tT} {a : tG} {b : tG} {m : tM} {o : tO} {E : List rn_C} {v : Nat → Int32} : (emb g1 g2 x d c u t a b m o E).set 72 (rn_i .int 100 v) = emb g1 g2 x d c u t a b (M_put_nodeRule m v) o E := rfl
def M_put_nodeFrom (m : tM) (v : Nat → Int32) : tM := (M_code m, M_draft m, M_size m, M_src m, M_kept m, M_keptSize m, M_loaded m, M_wrongLine m, M_rules m, M_heads m, M_lengths m, M_bodies m, M_weights m, M_costs m, M_symbols m, M_names m, M_hasText m, M_letters m, M_text m, M_emptySum m, M_emptyCost m, M_sums m, M_least m, M_units m, M_upTo m, M_upToNext m, M_rest m, M_nodes m, M_nodeRule m, v, M_nodeTo m, M_waits m, M_at m, M_end m, M_value m)
theorem sm_nodeFrom {g1 g2 : Nat} {x : tX} {d : tD} {c : tC} {u : tU} {t : tT} {a : tG} {b : tG} {m : tM} {o : tO} {E : List rn_C} {v : Nat → Int32} : (emb g1 g2 x d c u t a b m o E).set 73 (rn_i .int 100 v) = emb g1 g2 x d c u t a b (M_put_nodeFrom m v) o E := rfl
def M_put_nodeTo (m : tM) (v : Nat → Int32) : tM := (M_code m, M_draft m, M_size m, M_src m, M_kept m, M_keptSize m, M_loaded m, M_wrongLine m, M_rules m, M_heads m, M_lengths m, M_bodies m, M_weights m, M_costs m, M_symbols m, M_names m, M_hasText m, M_letters m, M_text m, M_emptySum m, M_emptyCost m, M_sums m, M_least m, M_units m, M_upTo m, M_upToNext m, M_rest m, M_nodes m, M_nodeRule m, M_nodeFrom m, v, M_waits m, M_at m, M_end m, M_value m)
theorem sm_nodeTo {g1 g2 : Nat} {x : tX} {d : tD} {c : tC} {u : tU} {t : tT} {a : tG} {b : tG} {m : tM} {o : tO} {E : List rn_C} {v : Nat → Int32} : (emb g1 g2 x d c u t a b m o E).set 74 (rn_i .int 100 v) = emb g1 g2 x d c u t a b (M_put_nodeTo m v) o E := rfl
def M_put_waits (m : tM) (v : Nat → Int32) : tM := (M_code m, M_draft m, M_size m, M_src m, M_kept m, M_keptSize m, M_loaded m, M_wrongLine m, M_rules m, M_heads m, M_lengths m, M_bodies m, M_weights m, M_costs m, M_symbols m, M_names m, M_hasText m, M_letters m, M_text m, M_emptySum m, M_emptyCost m, M_sums m, M_least m, M_units m, M_upTo m, M_upToNext m, M_rest m, M_nodes m, M_nodeRule m, M_nodeFrom m, M_nodeTo m, v, M_at m, M_end m, M_value m)
theorem sm_waits {g1 g2 : Nat} {x : tX} {d : tD} {c : tC} {u : tU} {t : tT} {a : tG} {b : tG} {m : tM} {o : tO} {E : List rn_C} {v : Nat → Int32} : (emb g1 g2 x d c u t a b m o E).set 75 (rn_i .int 1500 v) = emb g1 g2 x d c u t a b (M_put_waits m v) o E := rfl
def M_put_at (m : tM) (v : Int32) : tM := (M_code m, M_draft m, M_size m, M_src m, M_kept m, M_keptSize m, M_loaded m, M_wrongLine m, M_rules m, M_heads m, M_lengths m, M_bodies m, M_weights m, M_costs m, M_symbols m, M_names m, M_hasText m, M_letters m, M_text m, M_emptySum m, M_emptyCost m, M_sums m, M_least m, M_units m, M_upTo m, M_upToNext m, M_rest m, M_nodes m, M_nodeRule m, M_nodeFrom m, M_nodeTo m, M_waits m, v, M_end m, M_value m)
theorem sm_at {g1 g2 : Nat} {x : tX} {d : tD} {c : tC} {u : tU} {t : tT} {a : tG} {b : tG} {m : tM} {o : tO} {E : List rn_C} {v : Int32} : (emb g1 g2 x d c u t a b m o E).set 53 (rn_o 7 (List.set [.int (M_code m), .ref 54, .int (M_size m), .ref 55, .ref 56, .int (M_keptSize m), .int (M_loaded m), .int (M_wrongLine m), .int (M_rules m), .ref 57, .ref 58, .ref 59, .ref 60, .ref 61, .int (M_symbols m), .ref 62, .int (M_hasText m), .int (M_letters m), .ref 63, .ref 64, .ref 65, .ref 66, .ref 67, .ref 68, .ref 69, .ref 70, .ref 71, .int (M_nodes m), .ref 72, .ref 73, .ref 74, .ref 75, .int (M_at m), .int (M_end m), .int (M_value m)] 32 (.int v))) = emb g1 g2 x d c u t a b (M_put_at m v) o E := rfl
def M_put_end (m : tM) (v : Int32) : tM := (M_code m, M_draft m, M_size m, M_src m, M_kept m, M_keptSize m, M_loaded m, M_wrongLine m, M_rules m, M_heads m, M_lengths m, M_bodies m, M_weights m, M_costs m, M_symbols m, M_names m, M_hasText m, M_letters m, M_text m, M_emptySum m, M_emptyCost m, M_sums m, M_least m, M_units m, M_upTo m, M_upToNext m, M_rest m, M_nodes m, M_nodeRule m, M_nodeFrom m, M_nodeTo m, M_waits m, M_at m, v, M_value m)
theorem sm_end {g1 g2 : Nat} {x : tX} {d : tD} {c : tC} {u : tU} {t : tT} {a : tG} {b : tG} {m : tM} {o : tO} {E : List rn_C} {v : Int32} : (emb g1 g2 x d c u t a b m o E).set 53 (rn_o 7 (List.set [.int (M_code m), .ref 54, .int (M_size m), .ref 55, .ref 56, .int (M_keptSize m), .int (M_loaded m), .int (M_wrongLine m), .int (M_rules m), .ref 57, .ref 58, .ref 59, .ref 60, .ref 61, .int (M_symbols m), .ref 62, .int (M_hasText m), .int (M_letters m), .ref 63, .ref 64, .ref 65, .ref 66, .ref 67, .ref 68, .ref 69, .ref 70, .ref 71, .int (M_nodes m), .ref 72, .ref 73, .ref 74, .ref 75, .int (M_at m), .int (M_end m), .int (M_value m)] 33 (.int v))) = emb g1 g2 x d c u t a b (M_put_end m v) o E := rfl
def M_put_value (m : tM) (v : Int32) : tM := (M_code m, M_draft m, M_size m, M_src m, M_kept m, M_keptSize m, M_loaded m, M_wrongLine m, M_rules m, M_heads m, M_lengths m, M_bodies m, M_weights m, M_costs m, M_symbols m, M_names m, M_hasText m, M_letters m, M_text m, M_emptySum m, M_emptyCost m, M_sums m, M_least m, M_units m, M_upTo m, M_upToNext m, M_rest m, M_nodes m, M_nodeRule m, M_nodeFrom m, M_nodeTo m, M_waits m, M_at m, M_end m, v)
theorem sm_value {g1 g2 : Nat} {x : tX} {d : tD} {c : tC} {u : tU} {t : tT} {a : tG} {b : tG} {m : tM} {o : tO} {E : List rn_C} {v : Int32} : (emb g1 g2 x d c u t a b m o E).set 53 (rn_o 7 (List.set [.int (M_code m), .ref 54, .int (M_size m), .ref 55, .ref 56, .int (M_keptSize m), .int (M_loaded m), .int (M_wrongLine m), .int (M_rules m), .ref 57, .ref 58, .ref 59, .ref 60, .ref 61, .int (M_symbols m), .ref 62, .int (M_hasText m), .int (M_letters m), .ref 63, .ref 64, .ref 65, .ref 66, .ref 67, .ref 68, .ref 69, .ref 70, .ref 71, .int (M_nodes m), .ref 72, .ref 73, .ref 74, .ref 75, .int (M_at m), .int (M_end m), .int (M_value m)] 34 (.int v))) = emb g1 g2 x d c u t a b (M_put_value m v) o E := rfl
end
section
/-! The core, fifth part: what leaves a method by a throw. -/
/-- it threw an object of the class E, and the world is w -/
def rn_TT (Z : rn_Z) (A : Nat → Prop) (ad0 : List Nat) (E : String) (w : List rn_C) (mc ms : Nat) (st : State) (q : Addr) (t : State) : Prop :=
  (∃ (ad : List Nat) (ws : va_W) (tys : List (ClassId × FieldType)), (∃ l, ad = ad0 ++ l) ∧ rn_w ad Z.2.2.1 tys w ws ∧ va_P Z.2.1 rn_cl ws t.heap ∧ va_K Z.2.1 rn_cl tys t ∧ va_D A ws) ∧ va_F A st t ∧
  (∃ ce : Cell, t.heap[q]? = some ce ∧ ce.vm = .none ∧ st.vm.findClass E = some ce.cls) ∧ st.WarmedH t.vm ∧ ∃ L : List Loc, st.sameButNew ({ t with vm := st.vm } : State) L mc ms ∧ ∀ z ∈ L, A z.base
def rn_Thr (Z : rn_Z) (E : String) (w : List rn_C) : rn_K := fun below _ s mc ms A ad0 t => ∃ q, t.status = .running ∧ Ended t below (.threw q) ∧ rn_TT Z A ad0 E w mc ms s q t
def CallT (Z : rn_Z) (M : rn_M) (av : List Value) (w : List rn_C) (ca sa : Nat) (E : String) (w1 : List rn_C) : Prop :=
  ∀ (ad : List Nat) (ws : va_W) (tys : List (ClassId × FieldType)) (ava : List Value) (sz : Nat), rn_vs ad av ava → rn_w ad Z.2.2.1 tys w ws →
    MetFree Z.1 M.1 (headSpec (rn_ws M) (rn_R M ca sa)) (rn_P Z ws tys ava sz) (fun _ _ _ _ _ => True) (fun _ st o t => ∃ q, o = .threw q ∧ rn_TT Z (va_A ws sz) ad E w1 ca sa st q t)
theorem rn_noEx {p : Program} {l : Launch} {e : Env} {R : Room} {s : State} {m : MethodId} {args : Array Value} {below : List Frame} {meth : Method} {c : Code} {T : State} {locs : List Loc} {cells slots : Nat} {M : rn_M} (X : Stand p l e R s m args below meth c T locs cells slots) (hn : s.methodNamed? M.1 = some m) (h : (Cond.code M.1 M.2.1 M.2.2.1 M.2.2.2.1).before args s = true) (pc : Nat) : ∀ x ∈ c.exceptionTable.toList, covers x pc = false := by
  obtain ⟨meth2, c2, h1, h2, -, -, -, -, h3, -⟩ := Cond.code_spec hn h
  cases X.method.symm.trans h1
  cases X.code.symm.trans h2
  intro x hx
  have h4 : c.exceptionTable = #[] := by simpa using h3
  rw [h4] at hx
  simp at hx
theorem rn_same_F {s U : State} {locs : List Loc} {k n : Nat} (h : s.sameButNew ({ U with vm := s.vm } : State) locs k n) : s.heap.size ≤ U.heap.size ∧ ∀ q : Nat, q < s.heap.size → (∀ z ∈ locs, z.base ≠ q) → U.heap[q]? = s.heap[q]? := by
  obtain ⟨-, h2, -, -, -, h6⟩ := h
  refine ⟨h2, fun q hq hz => ?_⟩
  obtain ⟨c9, e1, e2, e3, e4⟩ := h6 q _ (Array.getElem?_eq_getElem hq)
  have hs : c9.slots = (s.heap[q]).slots := Array.ext_getElem? fun i => e4 i fun hm => hz _ hm rfl
  have h9 : c9 = s.heap[q] := by
    rw [hs] at e2
    exact e2
  have e5 : U.heap[q]? = some c9 := e1
  rw [e5, h9, Array.getElem?_eq_getElem hq]
section
variable {Z : rn_Z} {M N : rn_M} {pc : Nat} {ls : List (Option Value)} {st st0 : List Value} {w w1 : List rn_C} {ca sa ca' sa' : Nat} {K : rn_K} {E : String}
theorem rn_callT {av : List Value} (hp : plainName M.1.cls = true) (n : Nat) (hn : (rn_ent av).length ≤ M.2.2.1) (k : Rn Z M 0 (rn_ent av ++ List.replicate n none) [] w ca sa (rn_Thr Z E w1)) : CallT Z M av w ca sa E w1 := by
  intro ad ws tys ava sz hav hw
  refine MetFree.of_bodyS (code := M.2.1) (maxLocals := M.2.2.1) (ret := M.2.2.2.1) hp ?_ ?_
  · intro args s m h hnm
    obtain ⟨meth, c, h1, h2, h3, h4, h5, h6, -, -⟩ := Cond.code_spec hnm (atoms_spec (ws := rn_ws M) h _ List.mem_cons_self)
    exact ⟨meth, c, h1, h2, h3, h4, h5, h6⟩
  · intro p e s m args below meth c s₁ B hml hv _
    have hh0 : s₁.heap = s.heap := by rw [B.state]; rfl
    obtain ⟨rfl, hsz, hP, hK, hD0, hX, hb, hbn, hTh⟩ := hv
    subst hsz
    have hts := atoms_spec (ws := rn_ws M) B.pre
    have hbA : ¬ va_A ws s.heap.size Z.2.2.1 := by
      intro q
      rcases q with ⟨k1, e1, h1⟩ | h1
      · exact hbn k1 e1 h1
      · omega
    have hW := k.go (p := p) (e := e) (below := below) (cells := 0) (slots := 0) (mc := ca) (ms := sa) (A := va_A ws s.heap.size) (ad0 := ad) (sta := []) ⟨B.exec, B.bytes, hml, findClass_of_methodNamed B.named, fun w h => hts w (List.mem_cons_of_mem _ h), B.notSynchronized, B.returns, (name_of_methodNamed B.named B.method).1, fun q h => Or.inr h, hX, hb, hbA, hTh, B.named⟩ ⟨hw, hP, hK, hD0.self, va_S.rf⟩ (rn_ent_L hav hn) rfl ⟨[], by simp⟩ (by omega) (by omega)
    obtain ⟨t, a1, q, b1, b2, b3⟩ := hW s₁ hh0 (Stand.of_body B)
    rw [← lg_entry_eq] at a1
    exact ⟨t, .threw q, a1, b1, b2, q, rfl, b3⟩
/-- what a throw finds when it comes back to the caller: the caller's frame g, the object over it -/
theorem rn_backT {p : Program} {l : Launch} {e : Env} {R : Room} {s : State} {m : MethodId} {args : Array Value} {below : List Frame} {meth : Method} {c : Code} {U : State} {locs : List Loc} {cells slots : Nat} {y : MethodName} {ws : List Cond} {rm : Room} {Pc : Array Value → State → Prop} {mc ms : Nat} {free : Addr → Prop} {QT : State → Addr → State → Prop} {bytes : ByteArray} {maxL : Nat} {ret : Option FieldType}
    (hM : MetFree l y (headSpec ws rm) Pc (fun _ _ _ _ _ => True) (fun _ st o t => ∃ q, o = .threw q ∧ QT st q t)) (hQ : ∀ st q t, QT st q t → st.WarmedH t.vm ∧ ∃ L : List Loc, st.sameButNew ({ t with vm := st.vm } : State) L mc ms ∧ ∀ z ∈ L, free z.base)
    (hrc : rm.cells = mc) (hrs : rm.slots = ms) (hframes : rm.frames + 1 ≤ R.frames) (hlocals : 8 + (maxL + 11) + rm.locals ≤ R.locals) (hws : ∀ w ∈ ws, ∀ (a' : Array Value) (U : State), s.WarmedH U.vm → w.before a' U = true) (hcode : Cond.code y bytes maxL ret ∈ ws) (hinit : ∀ (a' : Array Value) (U : State), s.WarmedH U.vm → (Cond.initialized y.cls).before a' U = true)
    (X : Stand p l e R s m args below meth c U locs cells slots) {g : JFrame} (hg : g.method = m) (hsize : g.locals.size = c.maxLocals) {ig : Instr} {len : Nat} (hdg : decode c.code g.pc = .ok (ig, len)) (hW : 2 * g.monitorRoom + (g.stack.map fun v => v.category).sum ≤ 8) {mk : MethodId} (hn : U.methodNamed? y = some mk) {a : Array Value} (hcl : cells + mc ≤ R.cells) (hsl : slots + ms ≤ R.slots) (hPc : Pc a (U.calling g mk a)) :
    ∃ (q : Addr) (t : State) (L : List Loc) (B : State), Stand p l e R s m args below meth c B (locs ++ L) (cells + mc) (slots + ms) ∧ B.heap = t.heap ∧ B.vm = t.vm ∧ QT (U.calling g mk a) q t ∧ (∀ z ∈ L, free z.base) ∧ Steps p.tables e below (doInvoke e (U.setTop g) [] mk a).1 ((B.setTop g).pushFrame (.throwing q)) := by
  have h1 : (headSpec ws rm).pre.before a U = true := atoms_intro fun w hw => hws w hw _ _ X.warmed
  have h2 : (Cond.code y bytes maxL ret).before a U = true := hws _ hcode _ _ X.warmed
  have h3 : (Cond.initialized y.cls).before a U = true := hinit _ _ X.warmed
  obtain ⟨methY, cY, hmY, hcY, -, hlY, -, -, -, -⟩ := Cond.code_spec hn h2
  obtain ⟨kY, hkY, -⟩ := className_of_methodNamed hn
  have hinitY : kY.init = .initialized := Cond.initialized_spec (findClass_of_methodNamed hn) hkY h3
  have h : At U g.method c below := by rw [hg]; exact X.here
  have hl9 : 8 + (maxL + 11) + (headSpec ws rm).room.locals ≤ R.locals := hlocals
  have happ : (headSpec ws rm).appliesLoose y e.platform (U.calling g mk a) = true :=
    Spec.appliesLoose_calling (g := g) h hdg hn hkY hinitY
      (X.room_calling (g := g) (R' := (headSpec ws rm).room) hsize hmY hcY hframes (by rw [hlY]; omega) (show cells + rm.cells ≤ R.cells by rw [hrc]; exact hcl) (show slots + rm.slots ≤ R.slots by rw [hrs]; exact hsl)) h1
  obtain ⟨mid, hmid⟩ := h.above
  have hfr : (U.setTop g).frames = (.java g :: mid) ++ below := by rw [State.frames_setTop' g h.top, hmid]; rfl
  obtain ⟨o, s₂, hsteps, -, hend, hq⟩ := Steps.callFree hM p X.admits X.cas X.clock (acts := []) hfr happ hPc trivial
  obtain ⟨q, rfl, hqt⟩ := hq
  have hqt' : QT (U.calling g mk a) q s₂ := hqt
  obtain ⟨hW₂, L, hsm, hL⟩ := hQ _ _ _ hqt'
  rw [State.frames_setTop' g h.top] at hend
  obtain ⟨g₀, hg0⟩ := Option.isSome_iff_exists.mp h.top
  obtain ⟨r, hr⟩ := State.topJava?_eq_some.mp hg0
  have hr' : (({ U with heap := s₂.heap, slotsUsed := s₂.slotsUsed } : State).setVm s₂.vm).frames = .java g₀ :: r := hr
  obtain ⟨e2, q2, q3, q4, q5, q6⟩ := id hsm
  have e3 : s₂ = ({ (U.calling g mk a).setFrames s₂.frames with heap := s₂.heap, slotsUsed := s₂.slotsUsed } : State).setVm s₂.vm := by
    have : s₂ = ({ s₂ with vm := (U.calling g mk a).vm } : State).setVm s₂.vm := rfl
    rw [e2] at this
    exact this
  have hf₂ : s₂.frames = .throwing q :: .java g :: U.frames.tail := hend
  have hW' : U.WarmedH s₂.vm := hW₂
  have hs₂ : s₂ = ((({ U with heap := s₂.heap, slotsUsed := s₂.slotsUsed } : State).setVm s₂.vm).setTop g).pushFrame (.throwing q) := by
    refine e3.trans ?_
    rw [hf₂, State.calling_eq h.top, State.setFrames_setFrames, State.pushFrame, State.frames_setTop _ hr', State.setTop_of_frames _ hr', State.setFrames_setFrames, hr]
    rfl
  have hsame : U.sameButNew ({ U with heap := s₂.heap, slotsUsed := s₂.slotsUsed } : State) L mc ms := by
    refine ⟨?_, q2, q3, q4, q5, q6⟩
    obtain ⟨t, ht, -⟩ := State.frames_cons hr
    show ({ U with heap := s₂.heap, slotsUsed := s₂.slotsUsed } : State) = { U.setFrames U.frames with heap := s₂.heap, slotsUsed := s₂.slotsUsed }
    rw [State.setFrames_self ht]
  subst hg
  refine ⟨q, s₂, L, (({ U with heap := s₂.heap, slotsUsed := s₂.slotsUsed } : State).setVm s₂.vm), ⟨X.admits, X.cas, X.clock, X.frames, X.room, X.hears, X.method, X.code, (X.here.setHeapUsed s₂.heap s₂.slotsUsed).setVm hW'.alike, X.tail, State.WarmedH.trans X.warmed hW', X.limits, X.bytes, X.same.trans (hsame.setVm s.vm)⟩, rfl, rfl, hqt', hL, ?_⟩
  rw [← hs₂]
  exact hsteps
/-- a virtual call that throws: the caller's frame, its arguments off, and the object over it -/
theorem rn_thrV {idx n ci ob : Nat} {av : List Value} {fs : List Value} (hc : CallT Z N (.ref ob :: av) w ca' sa' E w1) (hI : rn_IV M.1.cls idx N n ci) (hpl : Cond.methodLink M.1.cls idx N.1 ∈ rn_tb) (hf : rn_Fit M N) (hd : decode M.2.1 pc = .ok (.invokevirtual idx, 3)) (ho : w[ob]? = some (rn_o ci fs)) (hn : av.length = n) (hst : av.reverse ++ .ref ob :: st = st0) (hrm : (st.map fun v => v.category).sum ≤ 8)
    {p : Program} {e : Env} {s : State} {m : MethodId} {args : Array Value} {below : List Frame} {meth : Method} {c : Code} {H : Heap} {locs : List Loc} {cells slots mc ms : Nat} {A : Nat → Prop} {ad : List Nat} {ws : va_W} {tys : List (ClassId × FieldType)} {la : Array Slot} {sta : List Value} {T : State}
    (hC : rn_X Z M p s m args meth c A) (hW : rn_Wd Z A s H locs ad tys w ws) (hL : rn_L ad la M.2.2.1 ls) (hS : rn_vs ad st0 sta) (h1 : cells + ca' ≤ mc) (h2 : slots + sa' ≤ ms) (hT : T.heap = H) (X : Stand p Z.1 e (rn_R M mc ms) s m args below meth c T locs cells slots) :
    ∃ (q : Addr) (rest : List Value) (L : List Loc) (B : State) (ad1 : List Nat) (ws1 : va_W) (tys1 : List (ClassId × FieldType)) (ce : Cell), rn_vs ad st rest ∧ Stand p Z.1 e (rn_R M mc ms) s m args below meth c B (locs ++ L) (cells + ca') (slots + sa') ∧ (∃ l, ad1 = ad ++ l) ∧ rn_Wd Z A s B.heap (locs ++ L) ad1 tys1 w1 ws1 ∧ B.heap[q]? = some ce ∧ ce.vm = .none ∧ s.vm.findClass E = some ce.cls ∧
      Steps p.tables e below (T.setTop (F0 m pc la sta)) ((B.setTop (F0 m pc la rest)).pushFrame (.throwing q)) := by
  subst hst
  obtain ⟨u1, u2, rfl, g1, u, rest, rfl, ⟨a, ha, rfl⟩, g2⟩ := rn_vs_app hS
  have hav : rn_vs ad av u1.reverse := by have := rn_vs_rev g1; rwa [List.reverse_reverse] at this
  have hlen : u1.reverse.length = n := by rw [rn_vs_len hav]; exact hn
  obtain ⟨a', ha', k0, us, h0, hus⟩ := hW.1.2.2 _ _ ho
  cases ha.symm.trans ha'
  obtain ⟨hI0, -, hi, hse, qc, hqc, hqn⟩ := hI
  have hM := hc ad ws tys (.ref a :: u1.reverse) H.size ⟨_, _, rfl, ⟨a, ha, rfl⟩, hav⟩ hW.1
  obtain ⟨cellB, hcB, hoB, hclB⟩ : ∃ cell : Cell, H[a]? = some cell ∧ cell.vm.isStatics = false ∧ s.vm.findClass N.1.cls = some cell.cls := by rw [← hqn]; exact va_recv hW.2.2.1 hW.2.1 hqc h0
  have hcat : 2 * (F0 m pc la rest).monitorRoom + (rest.map fun v => v.category).sum ≤ 8 := lv_room (by rw [rn_vs_cats g2]; exact hrm)
  have hts := hC.2.2.2.2.1
  have hB := rn_callB (R := rn_R M mc ms) (ca' := ca') (sa' := sa') hts hI0 hpl hf
  obtain ⟨hrc, hrs, hfr, hlo, hws, hcw, hcode, hini, hy, hle, hlk⟩ := hB
  obtain ⟨mk, methM, hnamed, hmethM, hstM, habM⟩ := Cond.instanceMethod_spec (hts _ hi)
  obtain ⟨methM', cM, hmethM', -, -, -, -, -, -, hsigM⟩ := Cond.code_spec hnamed hcode
  cases hmethM.symm.trans hmethM'
  obtain ⟨c2, r2, m2, q1, q2, q3, q4, kP, hkP, hkPi⟩ := Cond.selects_spec (hts _ hse)
  cases hclB.symm.trans q1
  cases (State.methodFound?_of_named hnamed hy).symm.trans q2
  cases hnamed.symm.trans q3
  have hselP : selectMethod e.platform s.vm cellB.cls mk = .method mk := by rw [Launch.admits_selectMethod X.admits]; exact q4
  obtain ⟨vm₁, X₁, hstep₁⟩ := X.invokevirtual hC.1 hC.2.2.2.1 hlk hnamed hmethM hstM hkP hkPi hy (a := a) (cell := cellB) (by rw [hT]; exact hcB)
    (fun z h => by rw [h] at hoB; cases hoB) hselP hmethM habM hkP hkPi (g := F0 m pc la (u1 ++ .ref a :: rest)) rfl (argsL := u1.reverse) (rest := rest) (hlen.trans (hle _ hsigM)) (by show _ = _; rw [List.reverse_reverse]) (by rw [hC.2.1]; exact hd)
  obtain ⟨q, t, L, B, X', e1, e2, hq, hLb, hsteps⟩ := rn_backT (QT := fun st q t => rn_TT Z (va_A ws H.size) ad E w1 ca' sa' st q t) (mc := ca') (ms := sa') (free := va_A ws H.size) (bytes := N.2.1) (maxL := N.2.2.1) (ret := N.2.2.2.1) hM (fun st q t h => ⟨h.2.2.2.1, h.2.2.2.2⟩) rfl rfl hfr hlo hws hcw (fun a' U hw => rn_pay hts _ hI0.2.1 a' U hw) X₁ (g := F0 m pc la rest) rfl (hL.1.trans hC.2.2.1.symm) (by rw [hC.2.1]; exact hd) hcat (X₁.named hnamed) (show cells + ca' ≤ mc from h1) (show slots + sa' ≤ ms from h2) (rn_blind _ _ _ _ (rn_pre hC hW (T.setVm vm₁) hT X₁.warmed))
  obtain ⟨⟨ad1, ws1, tys1, hpre1, hw1, hP1, hK1, hD1⟩, ⟨hz, hkp⟩, ⟨ce, hce, hcv, hcl⟩, hWm, -⟩ := hq
  have hsz : ((T.setVm vm₁).calling (F0 m pc la rest) mk (Value.ref a :: u1.reverse).toArray).heap = H := hT
  rw [hsz] at hz hkp
  have hAA : ∀ q, va_A ws H.size q → A q := by
    intro q hq
    rcases hq with ⟨k0, e0, hk0⟩ | hq
    · exact hW.2.2.2.1.2 k0 _ hk0
    · exact hC.2.2.2.2.2.2.2.2.1 q (Nat.le_trans hW.2.2.2.2.1 hq)
  have hal : t.vm.Alike s.vm := by rw [← e2]; exact X'.warmed.alike.symm
  have hclE : s.vm.findClass E = some ce.cls := by
    have h5 : (T.setVm vm₁).vm.findClass E = some ce.cls := hcl
    rw [X₁.warmed.alike.findClass] at h5
    exact h5
  refine ⟨q, rest, L, B, ad1, ws1, tys1, ce, g2, X', hpre1, ⟨hw1, by rw [e1]; exact hP1, va_K.moved hal hK1, hD1.weaken (fun _ _ _ q => hAA _ q), ⟨by rw [e1]; exact Nat.le_trans hW.2.2.2.2.1 hz, fun q g3 g4 => ?_, fun q hq => ?_⟩⟩, by rw [e1]; exact hce, hcv, hclE, hstep₁ _ fun acts => by rw [doInvoke_state]; exact hsteps⟩
  · rw [e1, hkp q (Nat.lt_of_lt_of_le g3 hW.2.2.2.2.1) (fun z => g4 (hAA q z))]
    exact hW.2.2.2.2.2.1 q g3 g4
  · rcases List.mem_append.mp hq with h | h
    · exact hW.2.2.2.2.2.2 q h
    · exact hAA _ (hLb q h)
/-- .. and nobody catches it here -/
theorem rn_invVT {idx n ci ob : Nat} {av : List Value} {fs : List Value} (hc : CallT Z N (.ref ob :: av) w ca' sa' E w1) (hI : rn_IV M.1.cls idx N n ci) (hpl : Cond.methodLink M.1.cls idx N.1 ∈ rn_tb) (hf : rn_Fit M N) (hd : decode M.2.1 pc = .ok (.invokevirtual idx, 3)) (ho : w[ob]? = some (rn_o ci fs)) (hn : av.length = n) (hst : av.reverse ++ .ref ob :: st = st0) (hrm : (st.map fun v => v.category).sum ≤ 8) (hcd : Cond.code M.1 M.2.1 M.2.2.1 M.2.2.2.1 ∈ rn_tb) (hca : ca' ≤ ca) (hsa : sa' ≤ sa) : Rn Z M pc ls st0 w ca sa (rn_Thr Z E w1) := by
  intro p e s m args below meth c H locs cells slots mc ms A ad0 ad ws tys la sta hC hW hL hS hp h1 h2
  intro T hT X
  obtain ⟨q, rest, L, B, ad1, ws1, tys1, ce, hr, X', ⟨l1, hl1⟩, hW1, hce, hcv, hcl, hst1⟩ := rn_thrV hc hI hpl hf hd ho hn hst hrm hC hW hL hS (by omega) (by omega) hT X
  obtain ⟨st1, hrun, hend, hWm, hsm⟩ := X'.leaveThrown q (g := F0 m pc la rest) rfl rfl rfl (rn_noEx X' hC.2.2.2.2.2.2.2.2.2.2.2.2.2 (hC.2.2.2.2.1 _ hcd) pc) hC.2.2.2.2.2.1
  obtain ⟨l0, hl0⟩ := hp
  refine ⟨_, hst1.trans st1, q, hrun, hend, ⟨ad1, ws1, tys1, ⟨l0 ++ l1, by rw [hl1, hl0, List.append_assoc]⟩, hW1.1, hW1.2.1, va_K.moved hWm.alike hW1.2.2.1, hW1.2.2.2.1⟩, ⟨hW1.2.2.2.2.1, hW1.2.2.2.2.2.1⟩, ⟨ce, hce, hcv, hcl⟩, hWm, locs ++ L, hsm.mono (by omega) (by omega), hW1.2.2.2.2.2.2⟩
end
end
section
/-! The core, sixth part: throw new E("..") where nobody catches it; launches without stack traces. -/
def rn_zU : Cond := .isRef (.static "java/lang/Throwable" "UNASSIGNED_STACK" "[Ljava/lang/StackTraceElement;")
def rn_zN : Cond := .isRef (.static "java/lang/Throwable" "SUPPRESSED_SENTINEL" "Ljava/util/List;")
def rn_yU : Cond := .laysStatic "java/lang/Throwable" "UNASSIGNED_STACK" "[Ljava/lang/StackTraceElement;"
def rn_yN : Cond := .laysStatic "java/lang/Throwable" "SUPPRESSED_SENTINEL" "Ljava/util/List;"
/-- the words of a throw: four speak of the heap, the others are among the tables' -/
def rn_own (own : String) (ic : Nat) (cls : String) (names : List String) : Bool := (Jvm.Bundle.ownAtoms own ic cls names).all fun w => decide (w = rn_zU) || (decide (w = rn_zN) || (decide (w = rn_yU) || (decide (w = rn_yN) || decide (w ∈ rn_tb))))
theorem rn_isRef {C n d : String} {A : Nat → Prop} {s : State} {args : Array Value} (h : va_Zq C n d A s s.heap) : (Cond.isRef (.static C n d)).before args s = true := by
  have key : ∀ v : Value, va_Z C n d v A s s.heap → v.isRef = true → (Cond.isRef (.static C n d)).before args s = true := by
    intro v h hv
    obtain ⟨cf, kf, fi, f, a, cell, h1, h2, h3, h4, h5, h6, h7, -⟩ := h
    have he : (Term.static C n d).eval args s none [] s = some v := by
      simp [Term.eval, State.fieldNamed?, h1, h2, h4, h5, h6, h7]
    simp only [Cond.before, Cond.holds, Cond.value, he]
    cases v <;> simp_all [Value.isRef]
  rcases h with h | ⟨t, h⟩
  · exact key _ h rfl
  · exact key _ h rfl
theorem rn_laysW {C n d : String} {A : Nat → Prop} {s : State} {args : Array Value} (h : rn_Ls C n d A s s.heap) : (Cond.laysStatic C n d).before args s = true := by
  obtain ⟨c, k, i, f, a, cell, h1, h2, h3, h4, h5, h6, h7, h8, h9, -⟩ := h
  show (Cond.laysStatic C n d).holds args s none s [] = true
  exact Cond.laysStatic_of h1 h2 h3 h4 h5 h6 h7 h8 h9
/-- the frame as if the method had been called in the heap of now -/
theorem rn_rebase {p : Program} {l : Launch} {e : Env} {R : Room} {s : State} {m : MethodId} {args : Array Value} {below : List Frame} {meth : Method} {c : Code} {T : State} {locs : List Loc} {cells slots : Nat} (X : Stand p l e R s m args below meth c T locs cells slots) {R' : Room} (hf : R'.frames ≤ R.frames) (hl : R'.locals ≤ R.locals) (hc : cells + R'.cells ≤ R.cells) (hs : slots + R'.slots ≤ R.slots) :
    Stand p l e R' ((T.setVm s.vm).setFrames (.invoking m args :: below)) m args below meth c T [] 0 0 := by
  have htop : (T.setVm s.vm).topJava?.isSome := X.here.top
  have hF : ((T.setVm s.vm).setFrames (.invoking m args :: below)).frames = .invoking m args :: below := State.frames_setFrames _ (State.cur_lt_of_top htop)
  obtain ⟨g₀, hg0⟩ := Option.isSome_iff_exists.mp htop
  obtain ⟨r, hr⟩ := State.topJava?_eq_some.mp hg0
  have hl9 : e.platform.stackLimits (T.setVm s.vm).me = e.platform.stackLimits s.me := X.limits
  have hb9 : (T.setVm s.vm).me.stackBytes = s.me.stackBytes := X.bytes
  refine ⟨X.admits, X.cas, X.clock, hF, ?_, X.hears, X.method, X.code, X.here, X.tail, X.warmed, ?_, ?_, ?_⟩
  · have h := X.room
    have hU : ((T.setVm s.vm).setFrames (.invoking m args :: below)).localsInUse = s.localsInUse := by
      rw [State.localsInUse_invoking hF (meth := meth) (c := c) X.method X.code, State.localsInUse_invoking X.frames X.method X.code]
    simp only [State.hasRoom, Bool.and_eq_true, decide_eq_true_eq] at h ⊢
    obtain ⟨⟨⟨⟨h1, h2, h3, h4, h5, h6⟩, h7⟩, h8⟩, h9⟩ := h
    rw [X.frames, List.length_cons] at h2 h3
    have q1 := X.heapSize
    have q2 := X.used
    simp only [hF, hU, List.length_cons, State.stackLimits_setFrames, State.stackBytes_setFrames, hl9, hb9]
    refine ⟨⟨⟨⟨by omega, by omega, by omega, by omega, by omega, h6⟩, ?_⟩, ?_⟩, X.book⟩
    · show T.heap.size + R'.cells ≤ e.platform.maxCells
      omega
    · show T.slotsUsed + R'.slots ≤ e.platform.maxSlots
      omega
  · rw [State.stackLimits_setFrames]; rfl
  · rw [State.stackBytes_setFrames]; rfl
  · refine ⟨?_, Nat.le_refl _, Nat.le_refl _, ?_, ?_, fun a c9 h9 => ⟨c9, h9, rfl, rfl, fun _ _ => rfl⟩⟩
    · obtain ⟨t, ht, -⟩ := State.frames_cons hr
      show T.setVm s.vm = { ((T.setVm s.vm).setFrames (.invoking m args :: below)).setFrames (T.setVm s.vm).frames with heap := T.heap, slotsUsed := T.slotsUsed }
      rw [State.setFrames_setFrames, State.setFrames_self ht]
      rfl
    · show T.slotsUsed = T.slotsUsed + ((T.heap.toList.drop T.heap.size).map (·.slots.size)).sum
      rw [List.drop_eq_nil_of_le (Nat.le_of_eq Array.length_toList)]
      rfl
    · show ((T.heap.toList.drop T.heap.size).map (·.slots.size)).sum ≤ 0
      rw [List.drop_eq_nil_of_le (Nat.le_of_eq Array.length_toList)]
      exact Nat.le_refl _
section
variable {Z : rn_Z} {M N : rn_M} {pc : Nat} {ls : List (Option Value)} {st st0 : List Value} {w w1 : List rn_C} {ca sa ca' sa' : Nat} {K : rn_K} {E : String}
theorem rn_throw {cls text : String} {names : List String} {ik is ic : Nat} (hl : Z.1.stackTraces = false) (hcls : Jvm.Bundle.fit cls = true) (hnames : ∀ n ∈ names, Jvm.Bundle.fit n = true) (hk : Cond.classLink M.1.cls ik cls ∈ rn_tb) (hini : Cond.initialized cls ∈ rn_tb) (hstr : (M.1.cls, is, text) ∈ rn_strs) (hat : rn_own M.1.cls ic cls names = true)
    (d0 : decode M.2.1 pc = .ok (.new ik, 3)) (d3 : decode M.2.1 (pc + 3) = .ok (.dup, 1)) (d4 : decode M.2.1 (pc + 4) = .ok (.ldc is, 2)) (d6 : decode M.2.1 (pc + 6) = .ok (.invokespecial ic, 3)) (d9 : decode M.2.1 (pc + 9) = .ok (.athrow, 1)) (hcd : Cond.code M.1 M.2.1 M.2.2.1 M.2.2.2.1 ∈ rn_tb) (hfr : names.length + 3 < M.2.2.2.2.1) (hlo : (st.map fun v => v.category).sum + (13 * (names.length + 1) + 43) ≤ M.2.2.2.2.2) : Rn Z M pc ls st w (ca + 1) (sa + 6) (rn_Thr Z cls w) := by
  intro p e s m args below meth c H locs cells slots mc ms A ad0 ad ws tys la sta hC hW hL hS hp h1 h2
  intro T hT X
  have htr : e.platform.stackTraces = false := (show e.platform.stackTraces = Z.1.stackTraces by rw [X.admits.platform]).trans hl
  have hcat := rn_vs_cats hS
  have Y := rn_rebase X (R' := { frames := M.2.2.2.2.1, locals := M.2.2.2.2.2, cells := 1, slots := 6 }) (Nat.le_refl _) (Nat.le_refl _) (show cells + 1 ≤ mc by omega) (show slots + 6 ≤ ms by omega)
  obtain ⟨s', hA⟩ : ∃ z, z = (T.setVm s.vm).setFrames (.invoking m args :: below) := ⟨_, rfl⟩
  rw [← hA] at Y
  have hvm : s'.vm = s.vm := by rw [hA]; rfl
  have hhp : s'.heap = H := by rw [hA]; exact hT
  have hW0 : s.WarmedH s'.vm := by rw [hvm]; exact State.WarmedH.refl s
  have hwd : ∀ w ∈ rn_tb, w.before args s' = true := fun w hw => rn_warm (List.mem_filter.mp hw).2 (hC.2.2.2.2.1 w hw) hW0
  have hTh : rn_Th A s' s'.heap := by rw [hhp]; exact rn_Th.warm hW0 (hC.2.2.2.2.2.2.2.2.2.2.2.2.1.kept hW.2.2.2.2.2.1)
  obtain ⟨hU1, hU2⟩ := hTh.1 ("java/lang/Throwable", "UNASSIGNED_STACK", "[Ljava/lang/StackTraceElement;") (by simp [rn_zs])
  obtain ⟨hN1, hN2⟩ := hTh.1 ("java/lang/Throwable", "SUPPRESSED_SENTINEL", "Ljava/util/List;") (by simp [rn_zs])
  have hown : ∀ w ∈ Jvm.Bundle.ownAtoms M.1.cls ic cls names, w.before args s' = true := fun w hw => by
    have h9 := List.all_eq_true.mp hat w hw
    simp only [Bool.or_eq_true, decide_eq_true_eq] at h9
    rcases h9 with rfl | rfl | rfl | rfl | h9
    · exact rn_isRef hU1
    · exact rn_isRef hN1
    · exact rn_laysW hU2
    · exact rn_laysW hN2
    · exact hwd w h9
  obtain ⟨sx, hsx⟩ := hTh.2.1 _ hstr
  have hown' : s'.vm.findClass M.1.cls = some m.cls := by rw [hvm]; exact hC.2.2.2.1
  have hins : (Cond.instantiable cls 6).before args s' = true := hown _ (by simp [Jvm.Bundle.ownAtoms])
  obtain ⟨vm₁, cX, kX, hfX, hkX, -, -, X₁, st1⟩ := Y.newCold hC.1 (own := M.1.cls) (C := cls) (index := ik) (n := 6) hown' (hwd _ hk) hins (hwd _ hini) (g := F0 m pc la sta) rfl (by rw [hC.2.1]; exact d0) (Nat.le_refl _) (Nat.le_refl _)
  generalize hT1 : (T.setVm vm₁).pushCell { cls := cX, slots := kX.instanceTypes.map defaultValue, vm := .none } = T1 at X₁ st1
  have hc1 : (Value.ref T.heap.size).category = 1 := rfl
  have hcellA : T1.heap[T.heap.size]? = some (freshCell cX kX) := by rw [← hT1]; exact State.heap_pushCell_size _ _
  have d3' : decode c.code (pc + 3) = .ok (.dup, 1) := by rw [hC.2.1]; exact d3
  have d4' : decode c.code (pc + 4) = .ok (.ldc is, 2) := by rw [hC.2.1]; exact d4
  have hno := rn_noEx X hC.2.2.2.2.2.2.2.2.2.2.2.2.2 (hC.2.2.2.2.1 _ hcd) (pc + 9)
  obtain ⟨U, hsteps, hrun, hend, hWU, hsame, ce, hce, hO⟩ := X₁.ctorThrowS hC.1 htr (own := M.1.cls) (cls := cls) (names := names) (ic := ic) hown' hcls hnames hown (fun x hx => nomatch hx) hfX hkX hcellA (by rw [hhp, hT]; exact Nat.le_refl _) (msg := .ref sx) rfl
    (g := { method := m, pc := pc + 6, locals := la, stack := .ref sx :: .ref T.heap.size :: .ref T.heap.size :: sta, locked := none }) rfl (hL.1.trans hC.2.2.1.symm) rfl rfl (rest := sta) rfl
    (by rw [hC.2.1]; exact d6) (by rw [hC.2.1]; exact d9) hno hfr (by simp only [List.map_cons, List.sum_cons, hc1]; show 2 * 0 + (1 + _) + _ ≤ M.2.2.2.2.2; rw [hcat]; omega) hC.2.2.2.2.2.1
  obtain ⟨f1, f2⟩ := rn_same_F hsame
  rw [hhp] at f1 f2
  have f3 : ∀ q : Nat, q < H.size → U.heap[q]? = H[q]? := fun q hq => f2 q hq (fun z hz => nomatch hz)
  have hWs : s.WarmedH U.vm := State.WarmedH.trans hW0 hWU
  have hcl : s.vm.findClass cls = some ce.cls := by
    have h9 := hO.cls
    rw [hvm] at h9
    exact h9
  have hall : s.sameButNew ({ U with vm := s.vm } : State) locs mc ms := by
    subst hA
    obtain ⟨e1, e2⟩ := hsame
    rw [State.setFrames_setFrames] at e1
    have h2 : (T.setVm s.vm).sameButNew ({ U with vm := s.vm } : State) [] (0 + 1) (0 + 6) := ⟨e1, e2⟩
    have h3 := X.same.trans h2
    rw [List.append_nil] at h3
    exact h3.mono (by omega) (by omega)
  obtain ⟨hw, hP, hK, hD, hSS⟩ := hW
  refine ⟨U, ?_, T.heap.size, hrun, hend, ⟨ad, ws, tys, hp, hw, hP.kept (fun k q hq => f3 q.1 ((hP k q hq).lt)), va_K.moved hWs.alike hK, hD⟩, ⟨Nat.le_trans hSS.1 f1, fun q g1 g2 => by rw [f3 q (Nat.lt_of_lt_of_le g1 hSS.1)]; exact hSS.2.1 q g1 g2⟩, ⟨ce, hce, hO.vm, hcl⟩, hWs, locs, hall, hSS.2.2⟩
  refine st1 _ ?_
  show Steps p.tables e below (T1.setTop { method := m, pc := pc + 3, locals := la, stack := .ref T.heap.size :: sta, locked := none }) _
  jvm_step X₁.here [X₁.here.top, hC.1, d3', Value.category]
  exact X₁.ldcString hC.1 (own := M.1.cls) (text := text) (index := is) (a := sx) hown' hsx.1 hsx.2
    (g := { method := m, pc := pc + 4, locals := la, stack := .ref T.heap.size :: .ref T.heap.size :: sta, locked := none }) rfl d4' _ hsteps
end
end
section
/-! The core, seventh part: a throw that the caller catches; methods with a table of handlers. (The library's thenCaughtThrough lies in JvmDerived/Shelf42.) -/
def rn_wsW (M : rn_M) (hh : List (Nat × Nat × Nat × Nat)) : List Cond := .codeWith M.1 M.2.1 M.2.2.1 M.2.2.2.1 hh :: rn_tb
/-- the contract of a method with handlers -/
def CallH (Z : rn_Z) (M : rn_M) (hh : List (Nat × Nat × Nat × Nat)) (av : List Value) (w : List rn_C) (ca sa : Nat) (r : Option Value) (w1 : List rn_C) : Prop :=
  ∀ (ad : List Nat) (ws : va_W) (tys : List (ClassId × FieldType)) (ava : List Value) (sz : Nat), rn_vs ad av ava → rn_w ad Z.2.2.1 tys w ws →
    Met Z.1 M.1 (rn_wsW M hh) (rn_R M ca sa) (rn_P Z ws tys ava sz) (rn_Q Z (va_A ws sz) ad r w1) ca sa (va_A ws sz)
section
variable {Z : rn_Z} {M N : rn_M} {pc : Nat} {ls : List (Option Value)} {st st0 : List Value} {w w1 : List rn_C} {ca sa ca' sa' : Nat} {K : rn_K} {E : String} {r : Option Value} {hh : List (Nat × Nat × Nat × Nat)}
theorem rn_callH {av : List Value} (hp : plainName M.1.cls = true) (n : Nat) (hn : (rn_ent av).length ≤ M.2.2.1) (k : Rn Z M 0 (rn_ent av ++ List.replicate n none) [] w ca sa (rn_Ret Z r w1)) : CallH Z M hh av w ca sa r w1 := by
  intro ad ws tys ava sz hav hw
  refine va_MetW (cc := M.2.1) (maxL := M.2.2.1) (ret := M.2.2.2.1) (hh := hh) hp rfl ?_
  intro p e s m args below meth c s₁ B hml hv
  obtain ⟨rfl, hsz, hP, hK, hD0, hX, hb, hbn, hTh⟩ := hv
  subst hsz
  have hts := atoms_spec (ws := rn_wsW M hh) B.pre
  rw [lg_entry_eq]
  refine k.go ⟨B.exec, B.bytes, hml, findClass_of_methodNamed B.named, fun w h => hts w (List.mem_cons_of_mem _ h), B.notSynchronized, B.returns, (name_of_methodNamed B.named B.method).1, fun q h => Or.inr h, hX, hb, ?_, hTh, B.named⟩ ⟨hw, hP, hK, hD0.self, va_S.rf⟩ (rn_ent_L hav hn) rfl ⟨[], by simp⟩ (by omega) (by omega)
  intro q
  rcases q with ⟨k1, e1, h1⟩ | h1
  · exact hbn k1 e1 h1
  · omega
theorem rn_invSH {idx n : Nat} {av : List Value} (hc : CallH Z N hh av w ca' sa' r w1) (hcw : Cond.codeWith N.1 N.2.1 N.2.2.1 N.2.2.2.1 hh ∈ rn_tb) (hini : Cond.initialized N.1.cls ∈ rn_tb) (hy : N.1.cls ≠ "java/lang/invoke/MethodHandle" ∧ N.1.cls ≠ "java/lang/invoke/VarHandle") (hpd : (parseMethodDescriptor N.1.desc).map (fun d => d.parameters.length) = some n) (hlk : Cond.methodLink M.1.cls idx N.1 ∈ rn_tb) (hsta : Cond.static N.1 ∈ rn_tb) (hf : rn_Fit M N) (hd : decode M.2.1 pc = .ok (.invokestatic idx, 3)) (hn : av.length = n) (hst : av.reverse ++ st = st0) (hrm : (st.map fun v => v.category).sum ≤ 8) (k : Rn Z M (pc + 3) ls (r.toList ++ st) w1 ca sa K) : Rn Z M pc ls st0 w (ca + ca') (sa + sa') K := by
  intro p e s m args below meth c H locs cells slots mc ms A ad0 ad ws tys la sta hC hW hL hS hp h1 h2
  subst hst
  obtain ⟨u1, rest, rfl, g1, g2⟩ := rn_vs_app hS
  have hav : rn_vs ad av u1.reverse := by have := rn_vs_rev g1; rwa [List.reverse_reverse] at this
  have hlen : u1.reverse.length = n := by rw [rn_vs_len hav]; exact hn
  have hM := hc ad ws tys u1.reverse H.size hav hW.1
  have hcat : 2 * (F0 m pc la (u1 ++ rest)).monitorRoom + (rest.map fun v => v.category).sum ≤ 8 := lv_room (by rw [rn_vs_cats g2]; exact hrm)
  have hts := hC.2.2.2.2.1
  have hws : ∀ w ∈ rn_wsW N hh, ∀ (a' : Array Value) (U : State), s.WarmedH U.vm → w.before a' U = true := fun w hw => by
    rcases List.mem_cons.mp hw with h | h
    · subst h
      exact rn_pay hts _ hcw
    · exact rn_pay hts _ h
  have hKb : Back Z.1 (rn_R M mc ms) p e below s args N.1 3 8 (PreOf (rn_R M mc ms) ca' sa' (rn_P Z ws tys u1.reverse H.size)) (PostOf (rn_Q Z (va_A ws H.size) ad r w1) ca' sa' (va_A ws H.size)) :=
    va_backW (hh := hh) (bytes := N.2.1) (maxL := N.2.2.1) (ret := N.2.2.2.1) hM rn_blind rfl rfl hf.1 hf.2 hws List.mem_cons_self (fun a' U hw => rn_pay hts _ hini a' U hw)
  refine rn_goon hC hW hL g2 hp h1 h2 ?_ k (aa := u1.reverse.toArray)
  intro T hT X
  obtain ⟨mk, methM, cM, hnamed, hmethM, -, -, -, -, -, -, hsigM⟩ := Cond.codeWith_spec (hts _ hcw)
  have hstatic : methM.isStatic = true := Cond.static_spec hnamed hmethM (hts _ hsta)
  obtain ⟨kP, hkP, -⟩ := className_of_methodNamed hnamed
  have hinitP : kP.init = .initialized := Cond.initialized_spec (findClass_of_methodNamed hnamed) hkP (hts _ hini)
  have hpl : u1.reverse.length = methM.sig.parameters.length := by
    rw [hsigM] at hpd
    rw [hlen]
    exact (Option.some.inj hpd).symm
  obtain ⟨vm₁, X₁, hstep₁⟩ := X.invokestatic hC.1 hC.2.2.2.1 (hts _ hlk) hnamed hmethM hstatic hkP hinitP hy (g := F0 m pc la (u1 ++ rest)) rfl (argsL := u1.reverse) (rest := rest) hpl (by show _ = _; rw [List.reverse_reverse]) (by rw [hC.2.1]; exact hd)
  obtain ⟨v, ⟨B, l2, c2, s2⟩, X', ⟨g', mk', t, L, e1, e2, hq, q1, hLb, q2, q3⟩, hsteps⟩ := hKb m meth c ⟨T.setVm vm₁, locs, cells, slots⟩ (F0 m pc la rest) (.invokestatic idx) mk u1.reverse.toArray X₁ rfl (hL.1.trans hC.2.2.1.symm) (by rw [hC.2.1]; exact hd) hcat (X₁.named hnamed) ⟨(show cells + ca' ≤ mc by omega), (show slots + sa' ≤ ms by omega), rn_pre hC hW (T.setVm vm₁) hT X₁.warmed⟩
  dsimp only [Pt.U, Pt.locs, Pt.cells, Pt.slots] at X' e1 e2 q1 q2 q3 hsteps
  subst q1; subst q2; subst q3
  exact ⟨v, (T.setVm vm₁).calling g' mk' u1.reverse.toArray, t, B, L, hT, X', hLb, e1, e2, hq, fun target h => hstep₁ _ fun acts => by rw [doInvoke_state]; exact hsteps.trans h⟩
theorem rn_invVC {idx n ci ob : Nat} {av : List Value} {fs : List Value} {hpre hsuf : List (Nat × Nat × Nat × Nat)} {tp : Nat × Nat × Nat × Nat} {nm : String} (hc : CallT Z N (.ref ob :: av) w ca' sa' E w1) (hI : rn_IV M.1.cls idx N n ci) (hpl : Cond.methodLink M.1.cls idx N.1 ∈ rn_tb) (hf : rn_Fit M N) (hd : decode M.2.1 pc = .ok (.invokevirtual idx, 3)) (ho : w[ob]? = some (rn_o ci fs)) (hn : av.length = n) (hst : av.reverse ++ .ref ob :: st = st0) (hrm : (st.map fun v => v.category).sum ≤ 8)
    (hcw : Cond.codeWith M.1 M.2.1 M.2.2.1 M.2.2.2.1 hh ∈ rn_tb) (hsp : hh = hpre ++ tp :: hsuf) (hpass : ∀ y ∈ hpre, y.2.2.2 ≠ 0 ∧ ∃ nm, Cond.classLink M.1.cls y.2.2.2 nm ∈ rn_tb ∧ (E, nm) ∈ rn_ncs) (hcov : tp.1 ≤ pc ∧ pc < tp.2.1) (h0 : tp.2.2.2 ≠ 0) (hlk : Cond.classLink M.1.cls tp.2.2.2 nm ∈ rn_tb) (hcs : Cond.castable E nm ∈ rn_tb)
    (k : Rn Z M tp.2.2.1 ls [.retAddr 0] w1 ca sa K) : Rn Z M pc ls st0 w (ca + ca') (sa + sa') K := by
  intro p e s m args below meth c H locs cells slots mc ms A ad0 ad ws tys la sta hC hW hL hS hp h1 h2
  intro T hT X
  obtain ⟨q, rest, L, B, ad1, ws1, tys1, ce, hr, X', ⟨l1, hl1⟩, hW1, hce, hcv, hcl, hst1⟩ := rn_thrV hc hI hpl hf hd ho hn hst hrm hC hW hL hS (by omega) (by omega) hT X
  have hts := hC.2.2.2.2.1
  obtain ⟨m9, meth9, c9, hn9, hm9, hc9, -, -, htab, -, -, -⟩ := Cond.codeWith_spec (hts _ hcw)
  cases hC.2.2.2.2.2.2.2.2.2.2.2.2.2.symm.trans hn9
  cases X.method.symm.trans hm9
  cases X.code.symm.trans hc9
  rw [hsp] at htab
  obtain ⟨pre, rst, hl, hpm, hrm2⟩ := List.map_eq_append_iff.mp htab
  obtain ⟨x, suf, rfl, hx, -⟩ := List.map_eq_cons_iff.mp hrm2
  have hplat : e.platform.magicAccessors = ({} : Platform).magicAccessors := by rw [X.admits.platform]
  obtain ⟨c3, c4, hc3, hc4, hasg⟩ := Cond.castable_spec (hts _ hcs)
  cases Option.some.inj (hc3.symm.trans hcl)
  obtain ⟨c5, hc5, hcl5⟩ := Cond.classLink_spec hC.2.2.2.1 (hts _ hlk) e.platform hplat
  cases Option.some.inj (hc4.symm.trans hc5)
  subst hx
  obtain ⟨vm', X2, st2⟩ := X'.thenCaughtThrough q (g := F0 m pc la rest) rfl hst1 hce (by rw [hcv]; rfl) (by obtain ⟨k9, h9, -⟩ := Vm.findClass_spec hcl; exact ⟨k9, h9⟩) pre x suf hl
    (fun y hy => by
      obtain ⟨g1, nm2, g2, g3⟩ := hpass (y.startPc, y.endPc, y.handlerPc, y.catchType) (by rw [← hpm]; exact List.mem_map_of_mem hy)
      obtain ⟨c6, hc6, hcl6⟩ := Cond.classLink_spec hC.2.2.2.1 (hts _ g2) e.platform hplat
      obtain ⟨a8, b8, f1, f2, f3⟩ := hC.2.2.2.2.2.2.2.2.2.2.2.2.1.2.2 _ g3
      cases Option.some.inj (f1.symm.trans hcl)
      cases Option.some.inj (f2.symm.trans hc6)
      exact Or.inr ⟨g1, _, hcl6, f3⟩) (by simp only [covers, Bool.and_eq_true, decide_eq_true_eq]; exact hcov) (Or.inr ⟨h0, c4, hcl5, hasg⟩)
  obtain ⟨l0, hl0⟩ := hp
  subst hl1
  obtain ⟨t2, a1, b1⟩ := k.go (p := p) (e := e) (below := below) (cells := cells + ca') (slots := slots + sa') (mc := mc) (ms := ms) (ad0 := ad0) (sta := [.ref q]) hC hW1 (rn_L_grow hL) ⟨_, _, rfl, ⟨q, rfl⟩, rfl⟩ ⟨l0 ++ l1, by rw [hl0, List.append_assoc]⟩ (by omega) (by omega) (B.setVm vm') rfl X2
  exact ⟨t2, st2.trans a1, b1⟩
end
end
