/** The document's terms, sentence by sentence at their edges: the draft, grammars, weights and costs. */
public final class TermsOfGrammarsTest {
    private static final Check check = new Check();

    public static void main(String[] args) {
        theDraftHasAtMost300Characters();
        eachIsANewlineOrOfTheCodes32To126();
        linesAreNumberedFrom1();
        emptyLinesAreLeftOut();
        linesThatBeginWithAHashAreLeftOut();
        theHeadIsACapital();
        behindTheHeadIsAnEqualsSign();
        theBodyHasNoneToFourSymbols();
        eachSymbolIsALetter();
        oneSpaceAheadOfTheWeight();
        theWeightIsANumber();
        aWeightMayHaveAnOddNumberBehindASlash();
        oneSpaceAheadOfTheCost();
        theCostIs0To99();
        numbersHaveOneToThreeFigures();
        thereAreAtMost12Rules();
        rulesAreNumberedInTheirOrder();
        thereAreAtMost6Nonterminals();
        nonterminalsAreNumberedAsTheyStandInTheText();
        aLineThatIsNoneOfThisIsWrong();
        aGrammarWithoutRulesIsWrongBehindItsLastLine();
        weightsWrap();
        aQuotientIsTheOneForWhichThisHolds();
        costsAreInts();
        check.end();
    }

    /** "THE DRAFT is a row of at most 300 characters". */
    private static void theDraftHasAtMost300Characters() {
        for (int length = 291; length <= 300; length++) {
            for (int more = 1; more <= 8; more++) {
                int n = more;
                WeightedTrees x = new WeightedTrees();
                Check.write(x, "#".repeat(length));
                boolean fits = length + n <= 300;
                check.due(n + " behind " + length, fits, () -> x.put(n, Check.codes("\n".repeat(8))));
                check.due("the draft is no grammar", Check.ARGUMENT, x::load);
                check.due("its lines, and one more", 2 + (fits ? n : 0), x::wrong);
            }
        }
        String rule = "\nS=a 1 12";
        check.loads("#".repeat(300 - rule.length()) + rule, 1);
        check.isWrong("#".repeat(299 - rule.length()) + rule + "x", 2);
        WeightedTrees full = new WeightedTrees();
        Check.write(full, "#".repeat(300));
        check.due("a full draft takes none", false, () -> full.put(1, '#'));
        check.due("a full draft is no text", Check.ARGUMENT, full::parse);
        check.due("parse() made it empty", true, () -> full.put(8, Check.codes("########")));
    }

    /** "each a newline or of the codes 32 .. 126". */
    private static void eachIsANewlineOrOfTheCodes32To126() {
        for (int code : new int[] {0, 9, 10, 11, 13, 31, 32, 126, 127, 128, 138, 160, 193, 225, 255}) {
            for (int place = 0; place < 8; place++) {
                WeightedTrees x = new WeightedTrees();
                long codes = Check.codes("########") & ~(255L << 8 * place) | (long) code << 8 * place;
                check.due("code " + code + " at " + place, code == 10 || code == 32 || code == 126,
                        () -> x.put(8, codes));
            }
        }
    }

    /** "lines between newlines, numbered from 1". */
    private static void linesAreNumberedFrom1() {
        for (int line : new int[] {1, 2, 3, 9, 10, 100, 299, 300}) {
            check.isWrong("\n".repeat(line - 1) + "x", line);
        }
        check.isWrong("x" + "\n".repeat(299), 1);
        check.isWrong("S=a 1 1\nS=a 1 1\nx\nx\nx", 3);
        check.isWrong("S=a 1 1\n#\n\nx", 4);
    }

    /** "empty ones .. are left out". */
    private static void emptyLinesAreLeftOut() {
        check.loads("\nS=a 1 1", 1);
        check.loads("S=a 1 1\n", 1);
        check.loads("\n\nS=a 1 1\n\n\nS=b 1 1\n\n", 2);
        check.loads("S=a 1 1" + "\n".repeat(293), 1);
        check.loads("\n".repeat(293) + "S=a 1 1", 1);
        check.isWrong("S=a 1 1\n ", 2);
    }

    /** "and those that begin with #, are left out". */
    private static void linesThatBeginWithAHashAreLeftOut() {
        check.loads("#\nS=a 1 1\n#", 1);
        check.loads("#S=b 1 1\nS=a 1 1\n##x", 1);
        check.loads("S=a 1 1\n#" + "~".repeat(291), 1);
        check.loads("# T=U 1 1\nS=ABCD 1 1\nE=a 1 1\n#F=a 1 1\nE=b 1 1", 3);
        check.isWrong("S=a 1 1\n #", 2);
        check.isWrong("S=a 1 1#", 1);
        check.isWrong("S#=a 1 1", 1);
    }

    /** "a HEAD (a capital A .. Z)". */
    private static void theHeadIsACapital() {
        for (char c = ' '; c <= '~'; c++) {
            String grammar = "\n" + c + "=a 1 1";
            if (c >= 'A' && c <= 'Z') {
                WeightedTrees x = check.loads(grammar, 1);
                int code = c;
                check.due("its name", code, () -> x.name(0));
            } else {
                // Where it begins with #, there is no rule.
                check.isWrong(grammar, c == '#' ? 3 : 2);
            }
        }
        check.isWrong("SA=a 1 1", 1);
        check.isWrong("=a 1 1", 1);
    }

    /** "= ;". */
    private static void behindTheHeadIsAnEqualsSign() {
        for (char c = ' '; c <= '~'; c++) {
            if (c != '=') {
                check.isWrong("S" + c + "a 1 1", 1);
            }
        }
        check.isWrong("S==a 1 1", 1);
        check.isWrong("Sa 1 1", 1);
        check.isWrong("S =a 1 1", 1);
    }

    /** "its BODY, none to four symbols". */
    private static void theBodyHasNoneToFourSymbols() {
        String[] bodies = {"", "a", "ab", "abc", "abcd"};
        for (String body : bodies) {
            WeightedTrees x = check.loads("S=" + body + " 1 1", 1);
            check.due("it derives " + body, true, () -> Check.parse(x, body));
            check.loads("S=" + body.toUpperCase() + " 1 1", 1);
        }
        for (String body : new String[] {"abcde", "ABCDE", "aBcDe", "SSSSS", "aaaaaa", "aaaaaaaa"}) {
            check.isWrong("S=" + body + " 1 1", 1);
        }
    }

    /** "each a capital (a NONTERMINAL) or a small letter a .. z (a TERMINAL)". */
    private static void eachSymbolIsALetter() {
        for (char c = ' '; c <= '~'; c++) {
            boolean isCapital = c >= 'A' && c <= 'Z';
            boolean isSmall = c >= 'a' && c <= 'z';
            for (int place = 0; place < 4; place++) {
                String grammar = "S=" + "xyz".substring(0, place) + c + "xyz".substring(place) + " 1 1";
                if (isCapital || isSmall) {
                    WeightedTrees x = check.loads(grammar, 1);
                    check.due("nonterminals of " + grammar, isCapital && c != 'S' ? 2 : 1, () -> x.count(1));
                } else {
                    check.isWrong(grammar, 1);
                }
            }
        }
    }

    /** "a space; its WEIGHT". */
    private static void oneSpaceAheadOfTheWeight() {
        check.isWrong("S=a1 1", 1);
        check.isWrong("S=a  1 1", 1);
        check.isWrong("S=1 1", 1);
        check.isWrong("S=  1 1", 1);
        check.isWrong("S=a\n1 1", 1);
        check.isWrong("S=a_1 1", 1);
        check.loads("S= 1 1", 1);
    }

    /** "its WEIGHT: a number". */
    private static void theWeightIsANumber() {
        for (int weight = 0; weight <= 999; weight++) {
            long due = weight;
            WeightedTrees x = Check.loaded("S=a " + weight + " 1");
            check.due("weight " + weight, due, () -> x.weight(0));
        }
        for (String weight : new String[] {"", "-1", "+1", "a", "1a", "a1", "1.", ".1", "1e1", "0x1", "1000", "1 1"}) {
            check.isWrong("S=a " + weight + " 1", 1);
        }
    }

    /** "perhaps with a / and an odd number behind it". */
    private static void aWeightMayHaveAnOddNumberBehindASlash() {
        for (int below = 0; below <= 999; below++) {
            if (below % 2 == 1) {
                check.loads("S=a 1/" + below + " 1", 1);
            } else {
                check.isWrong("S=a 1/" + below + " 1", 1);
            }
        }
        check.loads("S=a 0/1 1", 1);
        check.loads("S=a 999/999 1", 1);
        check.loads("S=a 1/001 1", 1);
        check.isWrong("S=a 1/000 1", 1);
        check.isWrong("S=a 2/002 1", 1);
        for (String weight : new String[] {"1/", "/1", "/", "1//1", "1/1/1", "1 /1", "1/ 1", "1/-1", "1/1001", "1\\1"}) {
            check.isWrong("S=a " + weight + " 1", 1);
        }
    }

    /** "a space; its COST". */
    private static void oneSpaceAheadOfTheCost() {
        check.isWrong("S=a 1/31", 1);
        check.isWrong("S=a 1  1", 1);
        check.isWrong("S=a 1\n1", 1);
        check.isWrong("S=a 1_1", 1);
        check.isWrong("S=a 1", 1);
        check.isWrong("S=a 1 ", 1);
    }

    /** "its COST, a number 0 .. 99". */
    private static void theCostIs0To99() {
        for (int cost = 0; cost <= 999; cost++) {
            String grammar = "S=a 1 " + cost;
            if (cost <= 99) {
                int due = cost;
                WeightedTrees x = Check.parsed(grammar, "a");
                check.due("cost " + cost, due, () -> x.cheapest(0, 0, 1));
            } else {
                check.isWrong(grammar, 1);
            }
        }
        for (String cost : new String[] {"-1", "+1", "a", "1a", "1/1", "1.", "1 ", "1 1", "9 9"}) {
            check.isWrong("S=a 1 " + cost, 1);
        }
    }

    /** "A number is one to three figures, which may begin with zeros." */
    private static void numbersHaveOneToThreeFigures() {
        String[] right = {"1", "01", "001", "9", "99", "099", "3", "03", "003"};
        String[] wrong = {"", "0001", "0000", "00001", "1000", "0999", "9999", "00000000"};
        for (String number : right) {
            check.loads("S=a " + number + " 1", 1);
            check.loads("S=a 1/" + number + " 1", 1);
            check.loads("S=a 1 " + number, 1);
        }
        for (String number : wrong) {
            check.isWrong("S=a " + number + " 1", 1);
            check.isWrong("S=a 1/" + number + " 1", 1);
            check.isWrong("S=a 1 " + number, 1);
        }
        for (char c = ' '; c <= '~'; c++) {
            if (c < '0' || c > '9') {
                check.isWrong("S=a " + c + " 1", 1);
                check.isWrong("S=a 1/" + c + " 1", 1);
                check.isWrong("S=a 1 " + c, 1);
                check.isWrong("S=a 1 0" + c, 1);
            }
        }
        check.loads("S=a 000 000", 1);
        check.loads("S=a 999 1", 1);
        WeightedTrees x = Check.parsed("S=a 010 010", "a");
        check.due("010 is ten", 10, () -> x.weight(0));
        check.due("010 costs ten", 10, () -> x.cheapest(0, 0, 1));
    }

    /** "There are at most 12 rules". */
    private static void thereAreAtMost12Rules() {
        String rule = "\nS=a 1 1";
        for (int rules = 1; rules <= 12; rules++) {
            check.loads(rule.repeat(rules), rules);
        }
        check.isWrong(rule.repeat(13), 14);
        check.isWrong(rule.repeat(30), 14);
        check.isWrong(rule.repeat(12) + "\n\n#" + rule, 16);
        check.loads(rule.repeat(12) + "\n\n#\n#S=a 1 1", 12);
        WeightedTrees x = Check.loaded(rule.repeat(12));
        check.due("a thirteenth one", Check.ARGUMENT, () -> Check.load(x, rule.repeat(13)));
        check.due("the twelve of before", 12, () -> x.count(0));
        check.due("twelve trees", true, () -> Check.parse(x, "a"));
        check.due("of weight 1", 12L, () -> x.inside(0, 0, 1));
    }

    /** "with numbers 0, 1, .. in their order". */
    private static void rulesAreNumberedInTheirOrder() {
        StringBuilder grammar = new StringBuilder();
        for (int rule = 0; rule < 12; rule++) {
            grammar.append(rule % 3 == 0 ? "#9\n\n" : "").append((char) ('F' - rule % 6)).append("=a ");
            grammar.append(100 + rule).append(' ').append(rule).append('\n');
        }
        WeightedTrees x = check.loads(grammar.toString(), 12);
        for (int rule = 0; rule < 12; rule++) {
            int r = rule;
            check.due("weight(" + r + ")", 100L + r, () -> x.weight(r));
        }
        Check.parse(x, "a");
        for (int s = 0; s < 6; s++) {
            int n = s;
            check.due("the cheaper rule of " + s, "1 " + s + ":0-1", () -> Check.tree(x, n, 0, 1));
        }
    }

    /** "and at most 6 different nonterminals in all (in heads and bodies)". */
    private static void thereAreAtMost6Nonterminals() {
        check.loads("A=a 1 1\nB=a 1 1\nC=a 1 1\nD=a 1 1\nE=a 1 1\nF=a 1 1", 6);
        check.isWrong("A=a 1 1\nB=a 1 1\nC=a 1 1\nD=a 1 1\nE=a 1 1\nF=a 1 1\nG=a 1 1", 7);
        check.loads("A=BCDE 1 1\nA=xFx 1 1", 2);
        check.isWrong("A=BCDE 1 1\nA=xFG 1 1", 2);
        check.isWrong("A=BCDE 1 1\nA=xFGx 1 1\nx", 2);
        check.isWrong("A=BCDE 1 1\nF=G 1 1\nG=a 1 1", 2);
        check.isWrong("A=BCDE 1 1\nF=a 1 1\n#\n\nA=aG 1 1", 5);
        check.loads("A=BCDE 1 1\nF=AaFA 1 1\nF=BCDE 1 1\n#G=H 1 1", 3);
        check.isWrong("A=BC 1 1\nZ=YX 1 1\nA=W 1 1", 3);
        // Terminals are no nonterminals, however many there are.
        check.loads("A=BCDE 1 1\nF=abcd 1 1\nF=efgh 1 1\nF=ijkl 1 1\nF=mnop 1 1", 5);
    }

    /** "numbered 0, 1, .. in the order in which they stand in the text". */
    private static void nonterminalsAreNumberedAsTheyStandInTheText() {
        namesAre("Z=YXW 1 1\nB=A 1 1", "ZYXWBA");
        namesAre("Z=aYaY 1 1\nY=Z 1 1\nA=ZBY 1 1", "ZYAB");
        namesAre("#ABC\n\nM=aM 1 1\nA=LaM 1 1", "MAL");
        namesAre("A=a 1 1\nB=a 1 1\nA=C 1 1", "ABC");
    }

    private static void namesAre(String grammar, String names) {
        WeightedTrees x = Check.loaded(grammar);
        check.due("nonterminals of " + grammar, names.length(), () -> x.count(1));
        for (int s = 0; s < names.length(); s++) {
            int n = s;
            check.due("name(" + n + ") of " + grammar, (int) names.charAt(n), () -> x.name(n));
        }
    }

    /** "A line that is none of this is WRONG". */
    private static void aLineThatIsNoneOfThisIsWrong() {
        String line = "S=aB 12/35 67";
        for (int length = 1; length < line.length() - 1; length++) {
            check.isWrong(line.substring(0, length), 1);
            check.isWrong("S=a 1 1\n\n" + line.substring(0, length) + "\nS=a 1 1", 3);
        }
        check.loads(line.substring(0, line.length() - 1), 1);
        check.loads(line, 1);
        for (char c = ' '; c <= '~'; c++) {
            check.isWrong(line + c, 1);
            if (c != '#') {
                check.isWrong(c + line, 1);
            }
        }
        check.isWrong(line + line, 1);
        check.isWrong("x\nx", 1);
    }

    /** "and so is a grammar without rules, at the number behind its last line". */
    private static void aGrammarWithoutRulesIsWrongBehindItsLastLine() {
        for (int newlines : new int[] {0, 1, 2, 3, 10, 299, 300}) {
            check.isWrong("\n".repeat(newlines), newlines + 2);
        }
        check.isWrong("#", 2);
        check.isWrong("#\n#", 3);
        check.isWrong("#S=a 1 1", 2);
        check.isWrong("\n#S=a 1 1\n", 4);
        check.isWrong("#".repeat(300), 2);
        check.isWrong("#\n".repeat(150), 152);
    }

    /** "WEIGHTS are longs that wrap". */
    private static void weightsWrap() {
        String doubling = "S=AAAA 1 1\nA=BBBB 1 1\nB= 16 1\nB=b 8 1";
        // B for no letters is 2 to the 4th, A 2 to the 16th, S 2 to the 64th.
        WeightedTrees x = Check.parsed(doubling, "b");
        check.due("2 to the 16th", 1L << 16, () -> x.empty(1));
        check.due("2 to the 64th is 0", 0L, () -> x.empty(0));
        check.due("16 times 2 to the 63rd is 0", 0L, () -> x.inside(0, 0, 1));
        WeightedTrees y = Check.loaded("S=AAAA 1 1\nA=BBBB 1 1\nB= 16 1\nS=CAAA 1 1\nC=BBBD 1 1\nD= 8 1");
        check.due("2 to the 63rd is the least long", Long.MIN_VALUE, () -> y.empty(0));
        WeightedTrees z = Check.loaded("S=A 1 1\nS=A 1 1\nA= 1/3 1\nS=A 1 1");
        check.due("three thirds are 1", 1L, () -> z.empty(0));
    }

    /** "a stands for a, and a / b for the one x for which b * x is a, as b is odd". */
    private static void aQuotientIsTheOneForWhichThisHolds() {
        for (int above : new int[] {0, 1, 2, 998, 999}) {
            for (int below : new int[] {1, 3, 5, 7, 9, 15, 127, 255, 257, 511, 513, 997, 999}) {
                WeightedTrees x = Check.loaded("S=a " + above + "/" + below + " 1");
                check.due(above + "/" + below, (long) above, () -> below * x.weight(0));
            }
        }
        check.due("1/3", 0xAAAA_AAAA_AAAA_AAABL, () -> Check.loaded("S=a 1/3 1").weight(0));
        check.due("6/3", 2L, () -> Check.loaded("S=a 6/3 1").weight(0));
    }

    /** "COSTS are ints." */
    private static void costsAreInts() {
        String grammar = "S=AAAA 0 99\nA=BBBB 0 99\nB=CCCC 0 99\nC=DDDD 0 99\nD=EEEE 0 99\nE= 0 99\nE=aS 0 99";
        WeightedTrees x = Check.parsed(grammar, "aaaaaaaa");
        check.due("all 1365 nodes for no letters", 1365 * 99, () -> x.cheapest(0, 4, 4));
        // Each letter puts a whole tree of S below one E.
        check.due("eight letters", 1365 * 9 * 99, () -> x.cheapest(0, 0, 8));
        check.due("its nodes", 1365 * 9, () -> x.build(0, 0, 8));
    }
}
