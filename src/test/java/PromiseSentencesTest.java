/** The promises 1 to 15, sentence by sentence at their edges. */
public final class PromiseSentencesTest {
    private static final int[] FAR = {Integer.MIN_VALUE, -2147483647, -65536, -256, 256, 65536, Integer.MAX_VALUE};

    /** Six levels, each with four times as many nodes as the one above: 1365 in all. */
    private static final String WIDE = "S=AAAA 1 1\nA=BBBB 1 1\nB=CCCC 1 1\nC=DDDD 1 1\nD=EEEE 1 1\nE= 1 1";

    private static final Check check = new Check();

    public static void main(String[] args) {
        newNoGrammar();
        newNoText();
        newEmptyDraft();
        putAppendsTheHighestFirst();
        putTakesTheLowestBits();
        putNIsNot1To8();
        putOneIsNotAsSaid();
        putMoreThan300();
        scrapMakesTheDraftEmpty();
        loadTakesThePlaceOfTheOneBefore();
        loadLeavesAnEmptyDraft();
        loadLeavesNoText();
        loadAnswersHowManyRules();
        loadOfAWrongOneAndOfOneThatLoops();
        wrongIsTheFirstWrongLine();
        wrongIs0BeforeThat();
        parseMakesTheDraftTheText();
        parseLeavesAnEmptyDraft();
        parseAnswersForNonterminal0();
        parseOfWhatIsNoText();
        parseWithoutAGrammar();
        countsOfEachKind();
        countIsNoneForOtherNumbers();
        countIsNoneWithoutAGrammarOrAText();
        nameIsTheCapital();
        weightOfARule();
        emptyIsInsideOfNoLetters();
        unitIsTheSumOfAllDerivations();
        unitHasOneMoreForItself();
        unitOfWhatIsNoNonterminal();
        insideOfAPart();
        cheapestIsNoneWithoutATree();
        buildAnswersHowManyNodes();
        theFirst100CanBeLookedAt();
        buildOfWhatHasNoTree();
        nodeTellsRuleAndPlaces();
        nodeIsNoneWhenWhichIsNot0To2();
        nodeOfTheTreeThatWasBuiltLatest();
        nodeThatIsNotThere();
        noNodeSinceLoadOrParse();
        check.end();
    }

    /** Promise 1: "No grammar". */
    private static void newNoGrammar() {
        WeightedTrees x = new WeightedTrees();
        check.due("count(0)", -1, () -> x.count(0));
        check.due("count(1)", -1, () -> x.count(1));
        check.due("name(0)", Check.INDEX, () -> x.name(0));
        check.due("weight(0)", Check.INDEX, () -> x.weight(0));
        check.due("empty(0)", Check.INDEX, () -> x.empty(0));
        check.due("unit(0, 0)", Check.INDEX, () -> x.unit(0, 0));
        check.due("parse()", Check.STATE, x::parse);
    }

    /** Promise 1: "no text". */
    private static void newNoText() {
        WeightedTrees x = new WeightedTrees();
        check.due("count(2)", -1, () -> x.count(2));
        check.due("node(0, 0)", Check.INDEX, () -> x.node(0, 0));
        check.due("load()", 1, () -> Check.load(x, "S= 1 1"));
        check.due("inside(0, 0, 0)", Check.ARGUMENT, () -> x.inside(0, 0, 0));
    }

    /** Promise 1: "an empty draft". */
    private static void newEmptyDraft() {
        WeightedTrees x = new WeightedTrees();
        check.due("load()", Check.ARGUMENT, x::load);
        check.due("its line", 2, x::wrong);
        WeightedTrees y = new WeightedTrees();
        for (int k = 0; k < 300; k++) {
            check.due("put() " + k, true, () -> y.put(1, '#'));
        }
        check.due("put() 300", false, () -> y.put(1, '#'));
    }

    /** Promise 2: "Appends n characters .. the highest first, to the draft". */
    private static void putAppendsTheHighestFirst() {
        WeightedTrees x = new WeightedTrees();
        check.due("one", true, () -> x.put(1, 0x53L));
        check.due("two", true, () -> x.put(2, 0x3D61L));
        check.due("five", true, () -> x.put(5, 0x62_2037_2039L));
        check.due("S=ab 7 9", 1, x::load);
        check.due("eight", true, () -> x.put(8, 0x6162_6162_6162_6162L));
        check.due("abababab", false, x::parse);
        check.due("ab at 0", 7L, () -> x.inside(0, 0, 2));
        check.due("ba at 1", 0L, () -> x.inside(0, 1, 3));
        check.due("ab at 6", 7L, () -> x.inside(0, 6, 8));
        check.due("an a", true, () -> x.put(1, 'a'));
        check.due("a b behind it", true, () -> x.put(1, 'b'));
        check.due("ab", true, x::parse);
    }

    /** Promise 2: "the lowest 8 * n bits of codes". */
    private static void putTakesTheLowestBits() {
        for (int n = 1; n <= 7; n++) {
            for (long high : new long[] {0, -1L, 0x7F7F_7F7F_7F7F_7F7FL, 0x0101_0101_0101_0101L, 1L << 63}) {
                int count = n;
                long codes = high << 8 * n | Check.codes("abababab".substring(8 - n));
                WeightedTrees x = Check.loaded("S=b 1 1\nS=aS 1 1\nS=bS 1 1");
                check.due("put(" + n + ", " + codes + ")", true, () -> x.put(count, codes));
                check.due("it is a text", true, x::parse);
                check.due("its letters", count, () -> x.count(2));
            }
        }
    }

    /** Promise 2: "false when n is not 1 .. 8". */
    private static void putNIsNot1To8() {
        WeightedTrees x = Check.loaded("S= 1 1");
        for (long codes : new long[] {0, Check.codes("aaaaaaaa"), -1L}) {
            for (int n : new int[] {-8, -1, 0, 9, 16}) {
                check.due("put(" + n + ", " + codes + ")", false, () -> x.put(n, codes));
            }
            for (int n : FAR) {
                check.due("put(" + n + ", " + codes + ")", false, () -> x.put(n, codes));
            }
        }
        check.due("the draft is empty", true, x::parse);
        for (int n = 1; n <= 8; n++) {
            int count = n;
            check.due("put(" + n + ", ..)", true, () -> x.put(count, Check.codes("aaaaaaaa")));
        }
    }

    /** Promise 2: "one is not as said". */
    private static void putOneIsNotAsSaid() {
        for (int n = 1; n <= 8; n++) {
            for (int place = 0; place < n; place++) {
                for (int code : new int[] {0, 9, 11, 31, 127, 255}) {
                    int count = n;
                    long codes = Check.codes("aaaaaaaa") & ~(255L << 8 * place) | (long) code << 8 * place;
                    WeightedTrees x = Check.loaded("S= 1 1");
                    check.due("put(" + n + ", " + codes + ")", false, () -> x.put(count, codes));
                    check.due("nothing was appended", true, x::parse);
                }
            }
        }
    }

    /** Promise 2: "or there would be more than 300". */
    private static void putMoreThan300() {
        WeightedTrees x = new WeightedTrees();
        Check.write(x, "\n".repeat(295));
        check.due("six more", false, () -> x.put(6, Check.codes("######")));
        check.due("five more", true, () -> x.put(5, Check.codes("\n\n\n\n\n")));
        check.due("one more", false, () -> x.put(1, '\n'));
        check.due("300 newlines", Check.ARGUMENT, x::load);
        check.due("have 301 lines", 302, x::wrong);
    }

    /** Promise 3: "The draft becomes empty." */
    private static void scrapMakesTheDraftEmpty() {
        WeightedTrees x = new WeightedTrees();
        x.scrap();
        check.due("an empty one stays so", Check.ARGUMENT, x::load);
        check.due("its line", 2, x::wrong);
        Check.write(x, "#".repeat(300));
        x.scrap();
        x.scrap();
        check.due("behind a full one", 1, () -> Check.load(x, "S= 1 1"));
        Check.write(x, "S=a 1 1");
        x.scrap();
        check.due("the empty text", true, x::parse);
        check.due("no letters", 0, () -> x.count(2));
    }

    /** Promise 4: "The draft is read as a grammar, which takes the place of the one before". */
    private static void loadTakesThePlaceOfTheOneBefore() {
        WeightedTrees x = Check.loaded("S=AB 3 1\nA= 5 1\nB= 7 1\nC=D 2 1\nE=a 1 1");
        check.due("a smaller one", 1, () -> Check.load(x, "B=a 2 9"));
        check.due("rules", 1, () -> x.count(0));
        check.due("nonterminals", 1, () -> x.count(1));
        check.due("name(0)", (int) 'B', () -> x.name(0));
        check.due("name(1)", Check.INDEX, () -> x.name(1));
        check.due("weight(1)", Check.INDEX, () -> x.weight(1));
        check.due("empty(0)", 0L, () -> x.empty(0));
        check.due("a text of it", true, () -> Check.parse(x, "a"));
        check.due("its cost", 9, () -> x.cheapest(0, 0, 1));
        check.due("a larger one", 3, () -> Check.load(x, "S=AB 3 1\nA= 5 1\nB= 7 1"));
        check.due("its empty(0)", 105L, () -> x.empty(0));
        check.due("its unit(0, 2)", 15L, () -> x.unit(0, 2));
    }

    /** Promise 4: "the draft is empty then". */
    private static void loadLeavesAnEmptyDraft() {
        WeightedTrees x = Check.loaded("S= 1 1\n#" + "x".repeat(292));
        check.due("the empty text", true, x::parse);
        check.due("no letters", 0, () -> x.count(2));
        WeightedTrees y = Check.loaded("S= 1 1");
        check.due("load() again", Check.ARGUMENT, y::load);
        check.due("its line", 2, y::wrong);
    }

    /** Promise 4: "and there is no text any more". */
    private static void loadLeavesNoText() {
        WeightedTrees x = Check.parsed("S=a 1 1\nS= 1 1", "a");
        check.due("the same again", 2, () -> Check.load(x, "S=a 1 1\nS= 1 1"));
        check.due("count(2)", -1, () -> x.count(2));
        check.due("inside(0, 0, 1)", Check.ARGUMENT, () -> x.inside(0, 0, 1));
        check.due("cheapest(0, 0, 0)", Check.ARGUMENT, () -> x.cheapest(0, 0, 0));
        check.due("build(0, 0, 0)", Check.ARGUMENT, () -> x.build(0, 0, 0));
    }

    /** Promise 4: "Answers how many rules it has." */
    private static void loadAnswersHowManyRules() {
        check.loads("S= 1 1", 1);
        check.loads("\n#\nS= 1 1\n\n#\nS= 1 1\n", 2);
        check.loads("S= 1 1\n".repeat(12), 12);
    }

    /** Promise 4: "IllegalArgumentException: it is wrong; IllegalStateException: it loops." */
    private static void loadOfAWrongOneAndOfOneThatLoops() {
        check.isWrong("S", 1);
        check.loops("S=S 1 1");
        check.isWrong("S=S 1 1\nS", 2);
        check.isWrong("S=S 1", 1);
        check.loads("S=s 1 1", 1);
    }

    /** Promise 5: "The number of the first wrong line when load() threw IllegalArgumentException latest". */
    private static void wrongIsTheFirstWrongLine() {
        check.isWrong("x\nx\nx", 1);
        check.isWrong("\n#\nx\nx\n", 3);
        check.isWrong("S=a 1 1\n".repeat(13) + "x", 13);
        check.isWrong("S=a 1 1\nx\n" + "S=a 1 1\n".repeat(12), 2);
        WeightedTrees x = new WeightedTrees();
        for (int line : new int[] {5, 1, 9, 2}) {
            check.due("load()", Check.ARGUMENT, () -> Check.load(x, "\n".repeat(line - 1) + "x"));
            check.due("wrong()", line, x::wrong);
            check.due("wrong() again", line, x::wrong);
        }
    }

    /** Promise 5: "0 before that". */
    private static void wrongIs0BeforeThat() {
        WeightedTrees x = new WeightedTrees();
        check.due("of a new object", 0, x::wrong);
        check.due("a right one", 1, () -> Check.load(x, "S= 1 1"));
        check.due("one that loops", Check.STATE, () -> Check.load(x, "S=S 1 1"));
        check.due("wrong()", 0, x::wrong);
    }

    /** Promise 6: "The draft becomes the text". */
    private static void parseMakesTheDraftTheText() {
        WeightedTrees x = Check.loaded("S=ab 1 1\nS=ba 2 1\nS= 3 1");
        for (String text : new String[] {"abbaabba", "ba", "", "ab", "abbaabba"}) {
            Check.parse(x, text);
            check.due("letters of " + text, text.length(), () -> x.count(2));
            for (int i = 0; i + 2 <= text.length(); i++) {
                int from = i;
                String part = text.substring(i, i + 2);
                check.due(part + " in " + text, part.equals("ab") ? 1L : part.equals("ba") ? 2L : 0L,
                        () -> x.inside(0, from, from + 2));
            }
        }
    }

    /** Promise 6: "and is empty then". */
    private static void parseLeavesAnEmptyDraft() {
        WeightedTrees x = Check.parsed("S=a 1 1", "aaaaaaaa");
        check.due("the empty text", false, x::parse);
        check.due("no letters", 0, () -> x.count(2));
        Check.parse(x, "b");
        check.due("a grammar", 1, () -> Check.load(x, "S=b 1 1"));
    }

    /** Promise 6: "Answers whether nonterminal 0 has a tree for it." */
    private static void parseAnswersForNonterminal0() {
        WeightedTrees x = Check.loaded("S=aaaa 1 1\nT=a 1 1\nT= 1 1");
        for (int length = 0; length <= 8; length++) {
            int n = length;
            check.due(n + " letters", n == 4, () -> Check.parse(x, "a".repeat(n)));
        }
        check.due("a tree of weight 0", true, () -> Check.parse(Check.loaded("S=a 0 0"), "a"));
        check.due("the empty text", true, () -> Check.loaded("S=AA 1 1\nA= 1 1").parse());
        check.due("one without rules ahead", false, () -> Check.parse(Check.loaded("S=TT 1 1\nT=a 1 1"), "a"));
    }

    /** Promise 6: "IllegalArgumentException: it has more than 8 characters, or one that is no letter a .. z". */
    private static void parseOfWhatIsNoText() {
        WeightedTrees x = Check.loaded("S=aS 1 1\nS= 1 1");
        check.due("eight", true, () -> Check.parse(x, "aaaaaaaa"));
        check.due("nine", Check.ARGUMENT, () -> Check.parse(x, "aaaaaaaaa"));
        check.due("eight and a newline", Check.ARGUMENT, () -> Check.parse(x, "aaaaaaaa\n"));
        check.due("300", Check.ARGUMENT, () -> Check.parse(x, "a".repeat(300)));
        for (String c : new String[] {"A", "Z", "`", "{", " ", "\n", "~", "0", "#"}) {
            check.due("first " + c, Check.ARGUMENT, () -> Check.parse(x, c + "aaaaaaa"));
            check.due("last " + c, Check.ARGUMENT, () -> Check.parse(x, "aaaaaaa" + c));
            check.due("alone " + c, Check.ARGUMENT, () -> Check.parse(x, c));
        }
        check.due("the text of before", 8, () -> x.count(2));
    }

    /** Promise 6: "IllegalStateException: there is no grammar." */
    private static void parseWithoutAGrammar() {
        WeightedTrees x = new WeightedTrees();
        check.due("of a new object", Check.STATE, () -> Check.parse(x, "a"));
        check.due("a wrong one", Check.ARGUMENT, () -> Check.load(x, "S=a 1 1\nS"));
        check.due("behind a wrong one", Check.STATE, () -> Check.parse(x, "a"));
        check.due("one that loops", Check.STATE, () -> Check.load(x, "S=a 1 1\nS=S 1 1"));
        check.due("behind one that loops", Check.STATE, () -> Check.parse(x, "a"));
        check.due("no text", -1, () -> x.count(2));
        check.due("a right one", 1, () -> Check.load(x, "S=a 1 1"));
        check.due("behind a right one", true, () -> Check.parse(x, "a"));
    }

    /** Promise 7: "How many there are: 0 rules, 1 nonterminals, 2 letters in the text". */
    private static void countsOfEachKind() {
        WeightedTrees x = Check.parsed("S=AbcD 1 1\nA=a 1 1\nS=SA 1 1", "abcde");
        check.due("rules", 3, () -> x.count(0));
        check.due("nonterminals", 3, () -> x.count(1));
        check.due("letters", 5, () -> x.count(2));
        WeightedTrees y = Check.parsed("A=BCDE 1 1\nF=a 1 1\n" + "F=b 1 1\n".repeat(10), "aaaaaaaa");
        check.due("most rules", 12, () -> y.count(0));
        check.due("most nonterminals", 6, () -> y.count(1));
        check.due("most letters", 8, () -> y.count(2));
        WeightedTrees z = Check.parsed("S= 1 1", "");
        check.due("fewest rules", 1, () -> z.count(0));
        check.due("fewest nonterminals", 1, () -> z.count(1));
        check.due("fewest letters", 0, () -> z.count(2));
    }

    /** Promise 7: "NONE for other numbers". */
    private static void countIsNoneForOtherNumbers() {
        WeightedTrees x = Check.parsed("S=a 1 1", "a");
        check.due("count(-1)", -1, () -> x.count(-1));
        check.due("count(3)", -1, () -> x.count(3));
        for (int which : FAR) {
            check.due("count(" + which + ")", -1, () -> x.count(which));
        }
    }

    /** Promise 7: "without a grammar (0, 1), and without a text (2)". */
    private static void countIsNoneWithoutAGrammarOrAText() {
        WeightedTrees x = new WeightedTrees();
        for (int which = -1; which <= 3; which++) {
            int w = which;
            check.due("count(" + w + ")", -1, () -> x.count(w));
        }
        check.due("a grammar", 1, () -> Check.load(x, "S=a 1 1"));
        check.due("count(0)", 1, () -> x.count(0));
        check.due("count(1)", 1, () -> x.count(1));
        check.due("count(2)", -1, () -> x.count(2));
    }

    /** Promise 8: "The capital that nonterminal s is (its code). IndexOutOfBoundsException: there is none." */
    private static void nameIsTheCapital() {
        String[] grammars = {"A=a 1 1", "Z=A 1 1", "A=ZBY 1 1", "A=BCDE 1 1\nZ=a 1 1"};
        String[] names = {"A", "ZA", "AZBY", "ABCDEZ"};
        for (int k = 0; k < grammars.length; k++) {
            WeightedTrees x = Check.loaded(grammars[k]);
            for (int s = -2; s <= 7; s++) {
                int n = s;
                boolean isThere = s >= 0 && s < names[k].length();
                check.due("name(" + s + ") of " + grammars[k], isThere ? (int) names[k].charAt(s) : Check.INDEX,
                        () -> x.name(n));
            }
            for (int s : FAR) {
                check.due("name(" + s + ") of " + grammars[k], Check.INDEX, () -> x.name(s));
            }
        }
    }

    /** Promise 9: "The weight of a rule. IndexOutOfBoundsException: there is none." */
    private static void weightOfARule() {
        for (int rules = 1; rules <= 12; rules++) {
            StringBuilder grammar = new StringBuilder();
            for (int rule = 0; rule < rules; rule++) {
                grammar.append("S=a ").append(rule * 90 % 1000).append(" 1\n");
            }
            WeightedTrees x = Check.loaded(grammar.toString());
            for (int rule = -2; rule <= 14; rule++) {
                int r = rule;
                boolean isThere = rule >= 0 && rule < rules;
                check.due("weight(" + rule + ") of " + rules, isThere ? rule * 90L % 1000 : Check.INDEX,
                        () -> x.weight(r));
            }
            for (int rule : FAR) {
                check.due("weight(" + rule + ") of " + rules, Check.INDEX, () -> x.weight(rule));
            }
        }
    }

    /** Promise 10: "INSIDE of a nonterminal and no letters. IndexOutOfBoundsException: there is no such nonterminal." */
    private static void emptyIsInsideOfNoLetters() {
        WeightedTrees x = Check.loaded("S=AAB 2 1\nA= 3 1\nA= 4 1\nB= 0 1\nC=a 9 1\nS= 5 1\nS=AC 9 1");
        long[] due = {5, 7, 0, 0};
        for (int s = 0; s < 4; s++) {
            int n = s;
            check.due("empty(" + s + ")", due[s], () -> x.empty(n));
        }
        for (int s : new int[] {-1, 4, 5, 6}) {
            check.due("empty(" + s + ")", Check.INDEX, () -> x.empty(s));
        }
        for (int s : FAR) {
            check.due("empty(" + s + ")", Check.INDEX, () -> x.empty(s));
        }
        Check.parse(x, "aa");
        for (int i = 0; i <= 2; i++) {
            int at = i;
            check.due("inside(1, " + i + ", " + i + ")", 7L, () -> x.inside(1, at, at));
        }
        check.due("empty(1) with a text", 7L, () -> x.empty(1));
    }

    /**
     * Promise 11: "The sum of the weights of all derivations from nonterminal s to nonterminal t alone: trees of s in
     * which one t, instead of a tree, is a leaf, and all else derives no letters".
     */
    private static void unitIsTheSumOfAllDerivations() {
        // A letter in the body, or one that is not emptyable, derives letters.
        unitIs("S=Ta 7 1\nT=b 1 1", 0, 1, 0);
        unitIs("S=TU 7 1\nT=b 1 1\nU=c 1 1", 0, 1, 0);
        unitIs("S=TU 7 1\nU= 5 1", 0, 1, 35);
        unitIs("S=UTUU 7 1\nU= 5 1", 0, 2, 7 * 125);
        // The t that is a leaf needs no rules, and its own empty tree does not count.
        unitIs("S=T 7 1", 0, 1, 7);
        unitIs("S=T 7 1\nT= 5 1", 0, 1, 7);
        unitIs("S=TT 7 1\nT= 5 1", 0, 1, 70);
        unitIs("S=TTTT 7 1\nT= 5 1", 0, 1, 4 * 7 * 125);
        unitIs("S=A 2 1\nA=B 3 1\nB=C 5 1\nC=D 7 1\nD=T 11 1", 0, 5, 2310);
        unitIs("D=T 11 1\nC=D 7 1\nB=C 5 1\nA=B 3 1\nS=A 2 1", 5, 1, 2310);
        unitIs("S=T 7 1\nS=T 9 1\nS=A 2 1\nA=T 3 1", 0, 1, 22);
        unitIs("T=a 1 1\nS=T 7 1", 1, 0, 7);
        unitIs("S=B 2 1\nS=C 3 1\nA=S 5 1\nB=C 7 1", 3, 2, 5 * (2 * 7 + 3));
        unitIs("S=T 0 1", 0, 1, 0);
        unitIs("S=TU 7 1\nU= 0 1", 0, 1, 0);
        unitIs("S=T 7 1\nT=a 1 1", 1, 0, 0);
        unitIs("S=AT 512 1\nA=BBBB 1 1\nB= 512 1\nB=C 1 1\nC=T 1 1", 0, 2, 512L << 36);
        unitIs("S=AATA 512 1\nA=BB 1 1\nB= 512 1", 0, 2, Long.MIN_VALUE);
        unitIs("S=AATA 512 1\nA=BB 2 1\nB= 512 1", 0, 2, 0);
    }

    private static void unitIs(String grammar, int s, int t, long due) {
        WeightedTrees x = Check.loaded(grammar);
        check.due("unit(" + s + ", " + t + ") of " + grammar, due, () -> x.unit(s, t));
    }

    /** Promise 11: "1 more when t is s". */
    private static void unitHasOneMoreForItself() {
        WeightedTrees x = Check.loaded("A=BCDE 3 1\nB= 5 1\nC= 7 1\nF=aF 2 1\nF=FF 2 1\nD= 0 1");
        for (int s = 0; s < 6; s++) {
            int n = s;
            check.due("unit(" + s + ", " + s + ")", 1L, () -> x.unit(n, n));
        }
    }

    /** Promise 11: "IndexOutOfBoundsException: there is no such nonterminal." */
    private static void unitOfWhatIsNoNonterminal() {
        WeightedTrees x = Check.loaded("S=T 1 1");
        for (int s = -1; s <= 6; s++) {
            for (int t = -1; t <= 6; t++) {
                int from = s;
                int to = t;
                boolean isThere = s >= 0 && s <= 1 && t >= 0 && t <= 1;
                check.due("unit(" + s + ", " + t + ")", isThere ? s <= t ? 1L : 0L : Check.INDEX,
                        () -> x.unit(from, to));
            }
        }
        for (int s : FAR) {
            check.due("unit(" + s + ", 0)", Check.INDEX, () -> x.unit(s, 0));
            check.due("unit(0, " + s + ")", Check.INDEX, () -> x.unit(0, s));
        }
    }

    /**
     * Promise 12: "IndexOutOfBoundsException: there is no such nonterminal; IllegalArgumentException: there is no
     * text, or no such part."
     */
    private static void insideOfAPart() {
        WeightedTrees x = Check.loaded("S=aS 2 1\nS= 3 1");
        check.due("without a text", Check.ARGUMENT, () -> x.inside(0, 0, 0));
        Check.parse(x, "aaaaaaaa");
        check.due("all of it", 3L << 8, () -> x.inside(0, 0, 8));
        check.due("none of it, at its end", 3L, () -> x.inside(0, 8, 8));
        for (int[] part : new int[][] {{-1, 0}, {0, -1}, {1, 0}, {8, 7}, {0, 9}, {8, 9}, {9, 9}, {9, 8}}) {
            throwsForPart(x, 0, part[0], part[1], Check.ARGUMENT);
            throwsForPart(x, 1, part[0], part[1], Check.INDEX);
        }
        for (int far : FAR) {
            throwsForPart(x, 0, far, 0, Check.ARGUMENT);
            throwsForPart(x, 0, 0, far, Check.ARGUMENT);
            throwsForPart(x, 0, far, far, Check.ARGUMENT);
            throwsForPart(x, far, 0, 0, Check.INDEX);
        }
    }

    private static void throwsForPart(WeightedTrees x, int s, int i, int j, Class<?> due) {
        String part = "(" + s + ", " + i + ", " + j + ")";
        check.due("inside" + part, due, () -> x.inside(s, i, j));
        check.due("cheapest" + part, due, () -> x.cheapest(s, i, j));
        check.due("build" + part, due, () -> x.build(s, i, j));
    }

    /** Promise 13: "CHEAPEST likewise; NONE when it has no tree." */
    private static void cheapestIsNoneWithoutATree() {
        WeightedTrees x = Check.loaded("S=ab 1 0\nT=U 1 1");
        check.due("without a text", Check.ARGUMENT, () -> x.cheapest(0, 0, 0));
        Check.parse(x, "ab");
        check.due("a cost of 0", 0, () -> x.cheapest(0, 0, 2));
        check.due("no tree", -1, () -> x.cheapest(0, 0, 1));
        check.due("no tree for no letters", -1, () -> x.cheapest(0, 2, 2));
        check.due("no tree of one that leads to one without rules", -1, () -> x.cheapest(1, 0, 2));
        check.due("no tree of one without rules", -1, () -> x.cheapest(2, 0, 2));
        check.due("a weight of 0", 99, () -> Check.parsed("S=a 0 99", "a").cheapest(0, 0, 1));
    }

    /** Promise 14: "THE TREE of a nonterminal for a part of the text is built: how many nodes it has." */
    private static void buildAnswersHowManyNodes() {
        check.due("one", 1, () -> Check.parsed("S=aaaa 1 1", "aaaa").build(0, 0, 4));
        check.due("one for no letters", 1, () -> Check.parsed("S= 1 1", "aa").build(0, 1, 1));
        check.due("five", 5, () -> Check.parsed("S=AAAA 1 1\nA=a 1 1", "aaaa").build(0, 0, 4));
        check.due("of the cheapest alone", 1, () -> Check.parsed("S=AA 1 1\nS=aa 1 2\nA=a 1 1", "aa").build(0, 0, 2));
        check.due("1365", 1365, () -> Check.parsed(WIDE, "").build(0, 0, 0));
    }

    /** Promise 14: "The first 100 of them can be looked at." */
    private static void theFirst100CanBeLookedAt() {
        // T has 85 nodes, D 13 and C one.
        String below = " 1 1\nT=AAAA 1 1\nA=BBBB 1 1\nB=CCCC 1 1\nC= 1 1\nD=BBCC 1 1";
        String[] bodies = {"TD", "TDC", "TDCC"};
        for (int more = 0; more <= 2; more++) {
            int nodes = 99 + more;
            int shown = Math.min(nodes, 100);
            WeightedTrees x = Check.parsed("S=" + bodies[more] + below, "");
            check.due("how many nodes", nodes, () -> x.build(0, 0, 0));
            check.due("the first of " + nodes, "0:0-0", () -> Check.node(x, 0));
            check.due("that of D among " + nodes, "5:0-0", () -> Check.node(x, 86));
            check.due("the last that is shown of " + nodes, "4:0-0", () -> Check.node(x, shown - 1));
            check.due("the one behind it of " + nodes, Check.INDEX, () -> x.node(shown, 0));
        }
    }

    /** Promise 14: "Throws as inside() does; IllegalStateException: it has no tree." */
    private static void buildOfWhatHasNoTree() {
        WeightedTrees x = Check.loaded("S=ab 1 1\nT=U 1 1");
        check.due("without a text", Check.ARGUMENT, () -> x.build(0, 0, 0));
        Check.parse(x, "ab");
        check.due("a tree", 1, () -> x.build(0, 0, 2));
        check.due("no tree", Check.STATE, () -> x.build(0, 1, 2));
        check.due("no tree for no letters", Check.STATE, () -> x.build(0, 0, 0));
        check.due("no tree of one without rules", Check.STATE, () -> x.build(2, 0, 2));
        check.due("a tree of weight 0", 1, () -> Check.parsed("S=a 0 1", "a").build(0, 0, 1));
    }

    /** Promise 15: "Node k of the tree that was built latest: 0 its rule, 1 and 2 the places". */
    private static void nodeTellsRuleAndPlaces() {
        WeightedTrees x = Check.parsed("S=Sa 1 1\nT=SbS 1 1\nS= 1 1", "xaabax");
        check.due("its nodes", 6, () -> x.build(1, 1, 5));
        int[][] nodes = {{1, 1, 5}, {0, 1, 3}, {0, 1, 2}, {2, 1, 1}, {0, 4, 5}, {2, 4, 4}};
        for (int k = 0; k < nodes.length; k++) {
            for (int which = 0; which <= 2; which++) {
                int n = k;
                int w = which;
                check.due("node(" + k + ", " + which + ")", nodes[k][which], () -> x.node(n, w));
            }
        }
    }

    /** Promise 15: "NONE when which is not 0 .. 2." */
    private static void nodeIsNoneWhenWhichIsNot0To2() {
        WeightedTrees x = Check.parsed("S=AA 1 1\nA=a 1 1", "aa");
        x.build(0, 0, 2);
        for (int k = 0; k < 3; k++) {
            int n = k;
            check.due("node(" + k + ", -1)", -1, () -> x.node(n, -1));
            check.due("node(" + k + ", 3)", -1, () -> x.node(n, 3));
            for (int which : FAR) {
                check.due("node(" + k + ", " + which + ")", -1, () -> x.node(n, which));
            }
        }
    }

    /** Promise 15: "of the tree that was built latest". */
    private static void nodeOfTheTreeThatWasBuiltLatest() {
        WeightedTrees x = Check.parsed("S=aS 1 1\nS=a 1 1", "aaa");
        check.due("three nodes", 3, () -> x.build(0, 0, 3));
        check.due("no tree", Check.STATE, () -> x.build(0, 0, 0));
        check.due("the three are there", "1:2-3", () -> Check.node(x, 2));
        check.due("two nodes", 2, () -> x.build(0, 1, 3));
        check.due("the last of two", "1:2-3", () -> Check.node(x, 1));
        check.due("no third one", Check.INDEX, () -> x.node(2, 0));
    }

    /** Promise 15: "IndexOutOfBoundsException: there is no such node, or k is more than 99." */
    private static void nodeThatIsNotThere() {
        WeightedTrees x = Check.parsed("S=a 1 1", "a");
        check.due("without a tree", Check.INDEX, () -> x.node(0, 0));
        x.build(0, 0, 1);
        check.due("node(0, 0)", 0, () -> x.node(0, 0));
        check.due("node(1, 0)", Check.INDEX, () -> x.node(1, 0));
        check.due("node(-1, 0)", Check.INDEX, () -> x.node(-1, 0));
        for (int k : FAR) {
            check.due("node(" + k + ", 0)", Check.INDEX, () -> x.node(k, 0));
        }
        WeightedTrees y = Check.parsed(WIDE, "");
        y.build(0, 0, 0);
        check.due("node(99, 0)", 4, () -> y.node(99, 0));
        for (int k : new int[] {100, 101, 1364, 1365}) {
            check.due("node(" + k + ", 0)", Check.INDEX, () -> y.node(k, 0));
        }
    }

    /** Promise 15: "(Since load() or parse() there is none, if they did not throw.)". */
    private static void noNodeSinceLoadOrParse() {
        WeightedTrees x = Check.parsed("S=a 1 1", "a");
        x.build(0, 0, 1);
        check.due("load() that throws", Check.ARGUMENT, x::load);
        check.due("load() of one that loops", Check.STATE, () -> Check.load(x, "S=S 1 1"));
        check.due("parse() that throws", Check.ARGUMENT, () -> Check.parse(x, "A"));
        check.due("the node is there", "0:0-1", () -> Check.node(x, 0));
        check.due("parse()", true, () -> Check.parse(x, "a"));
        check.due("none since parse()", Check.INDEX, () -> x.node(0, 0));
        x.build(0, 0, 1);
        check.due("parse() that answers false", false, x::parse);
        check.due("none since then", Check.INDEX, () -> x.node(0, 0));
        Check.parse(x, "a");
        x.build(0, 0, 1);
        check.due("load()", 1, () -> Check.load(x, "S=a 1 1"));
        check.due("none since load()", Check.INDEX, () -> x.node(0, 0));
    }
}
