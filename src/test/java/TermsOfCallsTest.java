/** The document's terms, sentence by sentence at their edges: what throws, and what it leaves as it was. */
public final class TermsOfCallsTest {
    private static final String WRONG = "X=x 9 9\nY= 9 9\nx";
    private static final String LOOPING = "X=x 9 9\nY=Y 9 9";
    private static final String NO_TEXT = "abc!";
    private static final String TOO_LONG = "aaaaaaaaa";

    private static final Check check = new Check();

    public static void main(String[] args) {
        aCallThatThrowsChangesNothing();
        loadAndParseLeaveAnEmptyDraftThen();
        otherCallsLeaveTheDraft();
        wrongIsNewWhenLoadThrowsIllegalArgument();
        ofSeveralExceptionsTheFirst();
        ofANodeAheadOfNone();
        anObjectIsUsedFor512Calls();
        check.end();
    }

    /** All that can be asked, with what throws. */
    private static String state(WeightedTrees x) {
        StringBuilder state = new StringBuilder();
        for (int a = -1; a <= 12; a++) {
            int n = a;
            add(state, () -> x.count(n));
            add(state, () -> x.name(n));
            add(state, () -> x.weight(n));
            add(state, () -> x.empty(n));
            add(state, () -> x.node(n, 0));
            add(state, () -> x.node(n, 1));
            add(state, () -> x.node(n, 2));
        }
        for (int s = 0; s < 3; s++) {
            for (int i = 0; i <= 3; i++) {
                for (int j = i; j <= 3; j++) {
                    int[] part = {s, i, j};
                    add(state, () -> x.inside(part[0], part[1], part[2]));
                    add(state, () -> x.cheapest(part[0], part[1], part[2]));
                }
                int[] pair = {s, i};
                add(state, () -> x.unit(pair[0], pair[1]));
            }
        }
        return state.toString();
    }

    private static void add(StringBuilder state, Check.Call call) {
        try {
            state.append(call.answer()).append(' ');
        } catch (RuntimeException e) {
            state.append(e.getClass().getSimpleName()).append(' ');
        }
    }

    private interface Deed {
        Object on(WeightedTrees x);
    }

    /** How far an object has come. */
    private enum Stage { NEW, LOADED, PARSED, BUILT }

    private static WeightedTrees at(Stage stage) {
        WeightedTrees x = new WeightedTrees();
        if (stage != Stage.NEW) {
            Check.load(x, "S=AB 2 1\nA=a 3 2\nB=bB 5 3\nB= 7 4");
        }
        if (stage == Stage.PARSED || stage == Stage.BUILT) {
            Check.parse(x, "abb");
        }
        if (stage == Stage.BUILT) {
            x.build(0, 0, 3);
        }
        return x;
    }

    private static void keeps(String what, Stage stage, Class<?> due, Deed deed) {
        // A new object each time, as all that can be asked is some 170 calls.
        WeightedTrees x = at(stage);
        String before = state(x);
        check.due(what + ", " + stage, due, () -> deed.on(x));
        check.due("the state behind " + what + ", " + stage, before, () -> state(x));
    }

    /** "A call that throws changes nothing". */
    private static void aCallThatThrowsChangesNothing() {
        for (Stage stage : Stage.values()) {
            Class<?> ofPart = stage == Stage.NEW ? Check.INDEX : Check.ARGUMENT;
            keeps("load() of a wrong one", stage, Check.ARGUMENT, x -> Check.load(x, WRONG));
            keeps("load() of nothing", stage, Check.ARGUMENT, x -> Check.load(x, ""));
            keeps("load() of one that loops", stage, Check.STATE, x -> Check.load(x, LOOPING));
            keeps("parse() of no text", stage, Check.ARGUMENT, x -> Check.parse(x, NO_TEXT));
            keeps("parse() of too long a text", stage, Check.ARGUMENT, x -> Check.parse(x, TOO_LONG));
            keeps("name()", stage, Check.INDEX, x -> x.name(6));
            keeps("weight()", stage, Check.INDEX, x -> x.weight(12));
            keeps("empty()", stage, Check.INDEX, x -> x.empty(-1));
            keeps("unit()", stage, Check.INDEX, x -> x.unit(0, 6));
            keeps("inside()", stage, ofPart, x -> x.inside(0, 2, 1));
            keeps("cheapest()", stage, ofPart, x -> x.cheapest(0, 0, 4));
            keeps("build()", stage, ofPart, x -> x.build(0, 0, 4));
            keeps("node()", stage, Check.INDEX, x -> x.node(5, 0));
        }
        keeps("parse() without a grammar", Stage.NEW, Check.STATE, x -> Check.parse(x, "ab"));
        keeps("build() of what has no tree", Stage.PARSED, Check.STATE, x -> x.build(1, 0, 3));
        keeps("build() of what has no tree", Stage.BUILT, Check.STATE, x -> x.build(1, 0, 3));
    }

    /** "but load() and parse() leave an empty draft then, too". */
    private static void loadAndParseLeaveAnEmptyDraftThen() {
        leavesAnEmptyDraft("load() of a wrong one", Check.ARGUMENT, x -> Check.load(x, WRONG));
        leavesAnEmptyDraft("load() of one that loops", Check.STATE, x -> Check.load(x, LOOPING));
        leavesAnEmptyDraft("load() of a full draft", Check.ARGUMENT, x -> Check.load(x, "a".repeat(300)));
        leavesAnEmptyDraft("parse() of no text", Check.ARGUMENT, x -> Check.parse(x, NO_TEXT));
        leavesAnEmptyDraft("parse() of too long a text", Check.ARGUMENT, x -> Check.parse(x, TOO_LONG));
        leavesAnEmptyDraft("parse() of a full draft", Check.ARGUMENT, x -> Check.parse(x, "a".repeat(300)));
        WeightedTrees bare = new WeightedTrees();
        check.due("parse() without a grammar", Check.STATE, () -> Check.parse(bare, "xyz"));
        check.due("load() behind it", 1, () -> Check.load(bare, "S=a 1 1"));
    }

    private static void leavesAnEmptyDraft(String what, Class<?> due, Deed deed) {
        WeightedTrees x = Check.loaded("S=a 1 1\nS= 1 1");
        check.due(what, due, () -> deed.on(x));
        check.due("the empty text behind " + what, true, x::parse);
        check.due("its letters", 0, () -> x.count(2));
        WeightedTrees y = Check.loaded("S=a 1 1");
        check.due(what, due, () -> deed.on(y));
        check.due("the empty grammar behind " + what, Check.ARGUMENT, y::load);
        check.due("its line", 2, y::wrong);
        WeightedTrees z = Check.loaded("S=a 1 1");
        check.due(what, due, () -> deed.on(z));
        Check.write(z, "#".repeat(296));
        check.due("there is room for 300 behind " + what, true, () -> z.put(4, Check.codes("####")));
    }

    /** The other calls are not said to empty the draft, whether they throw or not. */
    private static void otherCallsLeaveTheDraft() {
        WeightedTrees x = Check.parsed("S=ab 1 1\nT=U 1 1", "ab");
        Check.write(x, "a");
        state(x);
        check.due("build()", 1, () -> x.build(0, 0, 2));
        check.due("build() of no tree", Check.STATE, () -> x.build(1, 0, 2));
        check.due("wrong()", 0, x::wrong);
        check.due("a put() that is refused", false, () -> x.put(0, 'x'));
        Check.write(x, "b");
        check.due("the draft is ab", true, x::parse);
    }

    /** "and wrong() is new when load() throws IllegalArgumentException". */
    private static void wrongIsNewWhenLoadThrowsIllegalArgument() {
        WeightedTrees x = new WeightedTrees();
        check.due("before that", 0, x::wrong);
        check.due("one that loops", Check.STATE, () -> Check.load(x, LOOPING));
        check.due("no text", Check.ARGUMENT, () -> Check.parse(x, NO_TEXT));
        check.due("still before that", 0, x::wrong);
        check.due("a wrong one", Check.ARGUMENT, () -> Check.load(x, WRONG));
        check.due("its line", 3, x::wrong);
        check.due("one that loops", Check.STATE, () -> Check.load(x, LOOPING));
        check.due("a right one", 1, () -> Check.load(x, "S=a 1 1"));
        check.due("no text", Check.ARGUMENT, () -> Check.parse(x, NO_TEXT));
        check.due("a text", true, () -> Check.parse(x, "a"));
        check.due("no part", Check.ARGUMENT, () -> x.inside(0, 2, 2));
        x.scrap();
        check.due("still that line", 3, x::wrong);
        check.due("nothing", Check.ARGUMENT, x::load);
        check.due("the line behind it", 2, x::wrong);
        check.due("a wrong one again", Check.ARGUMENT, () -> Check.load(x, "x"));
        check.due("its line again", 1, x::wrong);
    }

    /** "Of several exceptions the one that a call names first is thrown". */
    private static void ofSeveralExceptionsTheFirst() {
        check.isWrong("S=S 1 1\nS", 2);
        check.isWrong("S=S 1 1\n" + "S=a 1 1\n".repeat(12), 13);
        WeightedTrees bare = new WeightedTrees();
        check.due("parse(): no text, no grammar", Check.ARGUMENT, () -> Check.parse(bare, NO_TEXT));
        check.due("parse(): too long, no grammar", Check.ARGUMENT, () -> Check.parse(bare, TOO_LONG));
        check.due("parse(): no grammar", Check.STATE, () -> Check.parse(bare, "aaaaaaaa"));
        for (int s : new int[] {-1, 2, Integer.MIN_VALUE, Integer.MAX_VALUE}) {
            firstOfPart(s, Check.INDEX, Check.INDEX, Check.INDEX);
        }
        firstOfPart(0, Check.ARGUMENT, Check.ARGUMENT, 1L);
        firstOfPart(1, Check.ARGUMENT, Check.ARGUMENT, 0L);
        WeightedTrees x = Check.parsed("S=a 1 1\nT=S 1 1", "b");
        check.due("build(): no nonterminal, no part", Check.INDEX, () -> x.build(2, 0, 2));
        check.due("build(): no part, no tree", Check.ARGUMENT, () -> x.build(1, 0, 2));
        check.due("build(): no tree", Check.STATE, () -> x.build(1, 0, 1));
    }

    private static void firstOfPart(int s, Object withoutText, Object withoutPart, Object inside) {
        WeightedTrees x = Check.loaded("S=a 1 1\nT=b 1 1");
        check.due("inside() of " + s + " without a text", withoutText, () -> x.inside(s, 0, 0));
        check.due("cheapest() of " + s + " without a text", withoutText, () -> x.cheapest(s, 0, 0));
        check.due("build() of " + s + " without a text", withoutText, () -> x.build(s, 0, 0));
        Check.parse(x, "a");
        check.due("inside() of " + s + " and no part", withoutPart, () -> x.inside(s, 1, 0));
        check.due("cheapest() of " + s + " and no part", withoutPart, () -> x.cheapest(s, 1, 0));
        check.due("build() of " + s + " and no part", withoutPart, () -> x.build(s, 1, 0));
        check.due("inside() of " + s, inside, () -> x.inside(s, 0, 1));
    }

    /** "(of a node: ahead of NONE)". */
    private static void ofANodeAheadOfNone() {
        WeightedTrees x = Check.parsed("S=a 1 1", "a");
        for (int which : new int[] {-1, 3, Integer.MIN_VALUE, Integer.MAX_VALUE}) {
            check.due("node(0, " + which + ") without a tree", Check.INDEX, () -> x.node(0, which));
        }
        check.due("a tree of one node", 1, () -> x.build(0, 0, 1));
        for (int which : new int[] {-1, 3, Integer.MIN_VALUE, Integer.MAX_VALUE}) {
            check.due("node(0, " + which + ")", -1, () -> x.node(0, which));
            check.due("node(1, " + which + ")", Check.INDEX, () -> x.node(1, which));
            check.due("node(-1, " + which + ")", Check.INDEX, () -> x.node(-1, which));
        }
    }

    /** "An object is used for at most 512 calls after it has been made". */
    private static void anObjectIsUsedFor512Calls() {
        WeightedTrees x = new WeightedTrees();
        // Six calls a round, as the grammar takes two of put(): the last round is like the first one.
        for (int calls = 0; calls + 6 <= 512; calls += 6) {
            check.due("load() behind " + calls + " calls", 2, () -> Check.load(x, "S=SS 1 1\nS=a 1 1"));
            check.due("put() behind it", true, () -> x.put(8, Check.codes("aaaaaaaa")));
            check.due("parse() behind it", true, x::parse);
            check.due("build() behind it", 15, () -> x.build(0, 0, 8));
        }
    }
}
