/** The document's terms, sentence by sentence at their edges: trees, loops, texts, and THE TREE. */
public final class TermsOfTreesTest {
    private static final Check check = new Check();

    public static void main(String[] args) {
        thePartsAndLettersAreTheRow();
        theWeightIsThatOfTheRuleTimesThose();
        theCostIsThatOfTheRulePlusTheirs();
        emptyableIfThereIsATreeForNoLetters();
        leadsIfAllOtherSymbolsAreEmptyable();
        ofSeveralOneIsLeftAside();
        loopsInOneStepOrMore();
        aRowHasFinitelyManyTrees();
        aTextHasAtMost8Letters();
        aTextHasLettersAToZ();
        placesAre0ToItsLength();
        insideIsTheSumOfAllTrees();
        insideIs0ForNone();
        cheapestIsTheLeastCost();
        theTreeIsOfTheLeastCost();
        theTreeHasTheRuleOfTheLeastNumber();
        theFirstSymbolsPartIsShortest();
        thenThatOfTheSecondOneAndSoOn();
        theTreesOfItsNonterminalsAreTheTrees();
        nodesAreTheRuleAndThenThoseOfItsBody();
        check.end();
    }

    private static void treeIs(String grammar, String text, String tree) {
        WeightedTrees x = Check.parsed(grammar, text);
        check.due("tree of " + text + " by " + grammar, tree, () -> Check.tree(x, 0, 0, text.length()));
    }

    /** "these parts and the letters that the body's terminals are, one behind the other, are the row". */
    private static void thePartsAndLettersAreTheRow() {
        WeightedTrees x = Check.loaded("S=aXbX 1 1\nX=cd 1 1\nX=c 1 1");
        for (String text : new String[] {"acbc", "acdbc", "acbcd", "acdbcd"}) {
            check.due(text, true, () -> Check.parse(x, text));
        }
        String[] others = {
            "", "a", "ab", "acb", "abc", "cbc", "acbca", "aacbc", "acdbcdc", "bcac", "cabc", "accb", "acbb", "adbc",
        };
        for (String text : others) {
            check.due(text, false, () -> Check.parse(x, text));
        }
    }

    /** "Its weight is that of the rule times those of these trees". */
    private static void theWeightIsThatOfTheRuleTimesThose() {
        WeightedTrees x = Check.parsed("S=AaAB 2 1\nA=b 3 1\nB=A 5 1\nB= 7 1\nA=c 0 1\nA=d 1/3 1", "babc");
        check.due("one letter of B", 0L, () -> x.inside(0, 0, 4));
        check.due("no letter of B", 2L * 3 * 3 * 7, () -> x.inside(0, 0, 3));
        check.due("a letter of B", 2L * 3 * 3 * 5 * 3, () -> Check.parse(x, "babb") ? x.inside(0, 0, 4) : -1);
        check.due("thirds", 2L * 7, () -> Check.parse(x, "bad") ? x.inside(0, 0, 3) : -1);
        check.due("a rule alone", 0L, () -> x.inside(1, 1, 2));
    }

    /** "its cost that of the rule plus theirs". */
    private static void theCostIsThatOfTheRulePlusTheirs() {
        WeightedTrees x = Check.parsed("S=AaAB 1 10\nA=b 1 20\nB= 1 99\nA= 1 0", "bab");
        check.due("with two letters", 10 + 20 + 20 + 99, () -> x.cheapest(0, 0, 3));
        check.due("with one", 10 + 20 + 99, () -> x.cheapest(0, 0, 2));
        check.due("with none", 10 + 99, () -> x.cheapest(0, 1, 2));
        check.due("a rule alone", 0, () -> x.cheapest(1, 1, 1));
    }

    /** "A nonterminal is EMPTYABLE if it has a tree for the row of no letters." */
    private static void emptyableIfThereIsATreeForNoLetters() {
        // S leads to itself just if X is emptyable.
        check.loops("S=SX 1 1\nX= 1 1");
        check.loops("S=SX 1 1\nX= 0 99");
        check.loops("S=SX 1 1\nX=a 1 1\nX= 1 1");
        check.loops("S=SX 1 1\nX=YYYY 1 1\nY= 1 1");
        check.loops("S=SX 1 1\nX=Y 1 1\nY=Z 1 1\nZ=V 1 1\nV=W 1 1\nW= 1 1");
        check.loops("W= 1 1\nV=W 1 1\nZ=V 1 1\nY=Z 1 1\nX=Y 1 1\nS=SX 1 1");
        check.loads("S=SX 1 1\nX=a 1 1", 2);
        check.loads("S=SX 1 1\nX=YYYZ 1 1\nY= 1 1", 3);
        check.loads("S=SX 1 1\nX=YYYa 1 1\nY= 1 1", 3);
        check.loads("S=SX 1 1", 1);
        check.loads("S=SX 1 1\nX=Y 1 1\nY=Z 1 1\nZ=V 1 1\nV=W 1 1\nW=a 1 1", 6);
    }

    /** "X LEADS to Y if a rule with the head X has Y in its body, and all other symbols of the body are emptyable". */
    private static void leadsIfAllOtherSymbolsAreEmptyable() {
        for (String body : new String[] {"S", "SE", "ES", "ESE", "SEE", "EES", "ESEE", "EESE", "SEEE", "EEES"}) {
            check.loops("S=" + body + " 1 1\nE= 1 1");
            // One letter or one that is not emptyable among the others is enough.
            int at = body.indexOf('S');
            if (body.length() < 4) {
                check.loads("S=a" + body + " 1 1\nE= 1 1", 2);
                check.loads("S=" + body + "a 1 1\nE= 1 1", 2);
                check.loads("S=" + body + "N 1 1\nE= 1 1\nN=a 1 1", 3);
                String inside = body.substring(0, at) + "N" + body.substring(at);
                check.loads("S=" + inside + " 1 1\nE= 1 1\nN=Ea 1 1", 3);
            }
        }
        check.loads("E=SS 1 1\nE= 1 1\nS=a 1 1", 3);
    }

    /** "(of several Y one is left aside)". */
    private static void ofSeveralOneIsLeftAside() {
        check.loads("S=SS 1 1\nS=a 1 1", 2);
        check.loads("S=SSSS 1 1\nS=a 1 1", 2);
        check.loads("S=AA 1 1\nA=S 1 1\nA=a 1 1", 3);
        check.loops("S=SS 1 1\nS= 1 1");
        check.loops("S=SSSS 1 1\nS= 1 1\nS=a 1 1");
        check.loops("S=AA 1 1\nA=S 1 1\nA= 1 1");
        check.loops("S=AA 1 1\nA=S 1 1\nS= 1 1");
    }

    /** "A GRAMMAR LOOPS if a nonterminal leads to itself, in one step or more." */
    private static void loopsInOneStepOrMore() {
        String names = "SABCDE";
        for (int steps = 1; steps <= 6; steps++) {
            StringBuilder ring = new StringBuilder();
            for (int k = 0; k < steps; k++) {
                ring.append(names.charAt(k)).append('=').append(names.charAt((k + 1) % steps)).append(" 1 1\n");
            }
            check.loops(ring.toString());
            check.loops(ring + "S=x 1 1\n");
            // With a letter in the last step it does not come back.
            check.loads(ring.toString().replace("=S ", "=Sa "), steps);
        }
        check.loops("S=a 1 1\nX=X 1 1");
        check.loops("S=a 1 1\nX=Y 0 0\nY=X 0 0");
        check.loops("S=A 1 1\nA=B 1 1\nB=B 1 1");
    }

    /** "If it does not, a row has finitely many trees." */
    private static void aRowHasFinitelyManyTrees() {
        String[] grammars = {
            "S=SSSS 1 1\nS=SS 1 1\nS=a 1 1\nS=A 1 1\nA=a 1 1", "S=Sa 1 1\nS=aS 1 1\nS= 1 1",
            "S=AAAA 1 1\nA=BBBB 1 1\nB=CCCC 1 1\nC= 1 1\nC=aS 1 1", "S=X 1 1\nX=aX 1 1",
        };
        for (String grammar : grammars) {
            for (int length = 0; length <= 8; length++) {
                WeightedTrees x = Check.loaded(grammar);
                String text = "a".repeat(length);
                boolean isRow = Check.parse(x, text);
                int least = x.cheapest(0, 0, length);
                check.due(text + " by " + grammar, isRow, () -> least >= 1);
            }
        }
        // Of a letter on either side, eight times: 2 to the 8th.
        WeightedTrees x = Check.parsed(grammars[1], "aaaaaaaa");
        check.due("trees of eight letters", 256L, () -> x.inside(0, 0, 8));
    }

    /** "A TEXT has at most 8 letters". */
    private static void aTextHasAtMost8Letters() {
        for (int length = 0; length <= 300; length += length < 12 ? 1 : 48) {
            int n = length;
            WeightedTrees x = Check.loaded("S=aS 1 1\nS= 1 1");
            check.due(n + " letters", n <= 8 ? true : Check.ARGUMENT, () -> Check.parse(x, "a".repeat(n)));
            check.due("count(2)", n <= 8 ? n : -1, () -> x.count(2));
        }
    }

    /** "letters a .. z". */
    private static void aTextHasLettersAToZ() {
        for (int code = 10; code <= 126; code += code == 10 ? 22 : 1) {
            char c = (char) code;
            boolean isLetter = c >= 'a' && c <= 'z';
            for (String text : new String[] {"" + c, c + "bbbbbbb", "bbbbbbb" + c, "bbb" + c}) {
                WeightedTrees x = Check.loaded("S=q 1 1");
                check.due("parse of " + text, isLetter ? text.equals("q") : Check.ARGUMENT, () -> Check.parse(x, text));
            }
            if (isLetter) {
                WeightedTrees x = Check.loaded("S=" + c + " 1 1");
                check.due("parse of " + c, true, () -> Check.parse(x, "" + c));
            }
        }
    }

    /** "with places 0 .. its length; part (i, j) is the letters from place i to place j". */
    private static void placesAre0ToItsLength() {
        for (int length = 0; length <= 8; length++) {
            WeightedTrees x = Check.parsed("S=aS 2 1\nS= 1 0", "a".repeat(length));
            for (int i = -1; i <= length + 1; i++) {
                for (int j = -1; j <= length + 1; j++) {
                    int from = i;
                    int to = j;
                    boolean isPart = 0 <= i && i <= j && j <= length;
                    check.due("inside(0, " + i + ", " + j + ") of " + length, isPart ? 1L << (j - i) : Check.ARGUMENT,
                            () -> x.inside(0, from, to));
                }
            }
        }
        WeightedTrees x = Check.parsed("S=bcd 1 1\nA=a 1 1\nH=h 1 1", "abcdefgh");
        check.due("from place 1 to place 4", 1L, () -> x.inside(0, 1, 4));
        check.due("from place 0 to place 3", 0L, () -> x.inside(0, 0, 3));
        check.due("the first letter", 1L, () -> x.inside(1, 0, 1));
        check.due("the last letter", 1L, () -> x.inside(2, 7, 8));
    }

    /** "INSIDE of a nonterminal and a part is the sum of the weights of all its trees for it". */
    private static void insideIsTheSumOfAllTrees() {
        WeightedTrees x = Check.parsed("S=AA 1 1\nS=aA 100 1\nA=a 2 1\nA=a 3 1\nA= 5 1\nA=aa 7 1", "aa");
        // A A with 0 and 2 letters, 1 and 1, 2 and 0; and a with an A of one letter.
        check.due("two letters", 35L + 25 + 35 + 500, () -> x.inside(0, 0, 2));
        check.due("one letter", 25L + 25 + 500, () -> x.inside(0, 1, 2));
        check.due("no letters", 25L, () -> x.inside(0, 1, 1));
        WeightedTrees y = Check.parsed("S=a 999 1\n".repeat(12), "a");
        check.due("twelve rules alike", 12L * 999, () -> y.inside(0, 0, 1));
        // Whichever of them stands first in the text, a tree is made of those that it leads to.
        WeightedTrees z = Check.parsed("S=B 2 1\nS=C 3 1\nA=S 5 1\nB=b 7 1\nC=b 11 1", "b");
        check.due("one that leads to the first one", 5L * (2 * 7 + 3 * 11), () -> z.inside(3, 0, 1));
    }

    /** "(0 for none)". */
    private static void insideIs0ForNone() {
        WeightedTrees x = Check.parsed("S=ab 9 1\nT=c 9 1\nU=X 9 1", "aab");
        check.due("no tree", 0L, () -> x.inside(0, 0, 2));
        check.due("no tree for no letters", 0L, () -> x.inside(0, 3, 3));
        check.due("a letter that is not there", 0L, () -> x.inside(1, 0, 1));
        check.due("of one whose body has no rules", 0L, () -> x.inside(2, 0, 3));
        check.due("of one without rules", 0L, () -> x.inside(3, 0, 3));
    }

    /** "and CHEAPEST their least cost". */
    private static void cheapestIsTheLeastCost() {
        WeightedTrees x = Check.parsed("S=a 1 9\nS=a 1 8\nS=a 1 99\nS=A 1 3\nA=a 1 4\nA=a 1 5", "a");
        check.due("of the last", 7, () -> x.cheapest(0, 0, 1));
        WeightedTrees y = Check.parsed("S=a 1 0\nS=A 1 0\nA=a 1 0", "a");
        check.due("of several alike", 0, () -> y.cheapest(0, 0, 1));
        WeightedTrees z = Check.parsed("S=a 0 2\nS=a 1 3", "a");
        check.due("a weight of 0 does not count", 2, () -> z.cheapest(0, 0, 1));
    }

    /** "THE TREE of a nonterminal for a part: of those of the least cost". */
    private static void theTreeIsOfTheLeastCost() {
        treeIs("S=a 1 2\nS=a 1 1\nS=a 1 2", "a", "1 1:0-1");
        treeIs("S=aa 1 3\nS=AA 1 0\nA=a 1 1", "aa", "3 1:0-2 2:0-1 2:1-2");
        // Neither the least rule nor the shortest part goes ahead of the cost.
        treeIs("S=AB 1 1\nA=a 1 9\nA=aa 1 1\nB=a 1 1\nB=aa 1 8", "aaa", "3 0:0-3 2:0-2 3:2-3");
    }

    /** "the one whose rule has the least number". */
    private static void theTreeHasTheRuleOfTheLeastNumber() {
        treeIs("S=a 1 1\n".repeat(12), "a", "1 0:0-1");
        treeIs("S=a 1 2\n" + "S=a 1 1\n".repeat(11), "a", "1 1:0-1");
        treeIs("S=a 1 2\n".repeat(11) + "S=a 1 1", "a", "1 11:0-1");
        treeIs("S=A 1 0\nS=a 1 1\nA=a 1 1", "a", "2 0:0-1 2:0-1");
        // The rule's number goes ahead of how short the first symbol's part is.
        treeIs("S=AB 1 1\nS=BA 1 1\nA=a 1 1\nB= 1 1", "a", "3 0:0-1 2:0-1 3:1-1");
        treeIs("S=BA 1 1\nS=AB 1 1\nA=a 1 1\nB= 1 1", "a", "3 0:0-1 3:0-0 2:0-1");
    }

    /** "of several of these the one in which the part of the first symbol of the body is shortest". */
    private static void theFirstSymbolsPartIsShortest() {
        String any = "\nA= 1 1\nA=a 1 1\nA=aa 1 1\nA=aaa 1 1";
        treeIs("S=AA 1 1" + any, "aaa", "3 0:0-3 1:0-0 4:0-3");
        treeIs("S=AA 1 1" + any, "aaaa", "3 0:0-4 2:0-1 4:1-4");
        treeIs("S=AA 1 1" + any, "aaaaaa", "3 0:0-6 4:0-3 4:3-6");
        // Of the first symbol, though the second one's part is longer then.
        treeIs("S=AB 1 1\nA=aa 1 1\nA=a 1 1\nB=a 1 1\nB=aa 1 1", "aaa", "3 0:0-3 2:0-1 4:1-3");
    }

    /** "then that of the second one, and so on". */
    private static void thenThatOfTheSecondOneAndSoOn() {
        String any = "\nA= 1 1\nA=a 1 1\nA=aa 1 1\nA=aaa 1 1";
        treeIs("S=AAA 1 1" + any, "aa", "4 0:0-2 1:0-0 1:0-0 3:0-2");
        treeIs("S=AAA 1 1" + any, "aaaa", "4 0:0-4 1:0-0 2:0-1 4:1-4");
        treeIs("S=aAAA 1 1" + any, "aaa", "4 0:0-3 1:1-1 1:1-1 3:1-3");
        treeIs("S=AAAA 1 1" + any, "aaaaaaaa", "5 0:0-8 1:0-0 3:0-2 4:2-5 4:5-8");
        treeIs("S=AaAA 1 1" + any, "aaa", "4 0:0-3 1:0-0 1:1-1 3:1-3");
        treeIs("S=AAaA 1 1" + any, "aaaa", "4 0:0-4 1:0-0 1:0-0 4:1-4");
        // The first two have one length each; the third one is shorter than the fourth.
        treeIs("S=BBAA 1 1\nA=aaa 1 1\nA=a 1 1\nB=aa 1 1", "aaaaaaaa", "5 0:0-8 3:0-2 3:2-4 2:4-5 1:5-8");
    }

    /** "and the trees of its nonterminals are likewise THE TREES for their parts". */
    private static void theTreesOfItsNonterminalsAreTheTrees() {
        treeIs("S=AA 1 1\nA=a 1 3\nA=a 1 2\nA=B 1 1\nB=a 1 1", "aa", "3 0:0-2 2:0-1 2:1-2");
        treeIs("S=AA 1 1\nA=B 1 1\nA=a 1 3\nA=a 1 2\nB=a 1 1", "aa", "5 0:0-2 1:0-1 4:0-1 1:1-2 4:1-2");
        treeIs("S=bA 1 1\nA=CC 1 1\nC= 1 1\nC=a 1 1", "ba", "4 0:0-2 1:1-2 2:1-1 3:1-2");
        // The least rule's number at the top goes ahead of those further down.
        treeIs("S=B 1 1\nS=A 1 1\nA=a 1 1\nB=a 1 1", "a", "2 0:0-1 3:0-1");
    }

    /** "Its NODES are its rules, in the order: the rule, then the nodes of the trees of its body". */
    private static void nodesAreTheRuleAndThenThoseOfItsBody() {
        treeIs("S=AB 1 1\nA=CD 1 1\nB=DC 1 1\nC=c 1 1\nD=d 1 1", "cddc",
                "7 0:0-4 1:0-2 3:0-1 4:1-2 2:2-4 4:2-3 3:3-4");
        treeIs("D=d 1 1\nS=xDxD 1 1", "d", "1 0:0-1");
        treeIs("S=xDxD 1 1\nD=d 1 1", "xdxd", "3 0:0-4 1:1-2 1:3-4");
        treeIs("S=aS 1 1\nS= 1 1", "aaaaaaaa",
                "9 0:0-8 0:1-8 0:2-8 0:3-8 0:4-8 0:5-8 0:6-8 0:7-8 1:8-8");
        treeIs("S=Sa 1 1\nS= 1 1", "aaaaaaaa",
                "9 0:0-8 0:0-7 0:0-6 0:0-5 0:0-4 0:0-3 0:0-2 0:0-1 1:0-0");
    }
}
