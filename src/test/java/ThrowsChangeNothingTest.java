/** The terms: a call that throws changes nothing but what is said there. */
public final class ThrowsChangeNothingTest {
    private static final String GRAMMAR = "S=AB 2 1\nA=a 3 2\nB=bB 5 3\nB= 7 4";
    private static final String DRAFT = "ab";

    private static final Check check = new Check();

    public static void main(String[] args) {
        keeps("load() of a wrong one", Check.ARGUMENT, true, x -> Check.load(x, "X=x 1 1\nY=Z 3 1\nx"));
        keeps("load() of nothing", Check.ARGUMENT, true, x -> Check.load(x, "\n#"));
        keeps("load() of one that loops", Check.STATE, true, x -> Check.load(x, "Q= 9 9\nS=S 1 1\nX=QQQQ 8 8"));
        keeps("parse() of no text", Check.ARGUMENT, true, x -> Check.parse(x, "aB"));
        keeps("parse() of too long a text", Check.ARGUMENT, true, x -> Check.parse(x, "aaaaaaaaa"));
        keeps("name()", Check.INDEX, false, x -> x.name(3));
        keeps("weight()", Check.INDEX, false, x -> x.weight(4));
        keeps("empty()", Check.INDEX, false, x -> x.empty(3));
        keeps("unit()", Check.INDEX, false, x -> x.unit(0, 3));
        keeps("inside()", Check.INDEX, false, x -> x.inside(3, 0, 0));
        keeps("inside() of no part", Check.ARGUMENT, false, x -> x.inside(0, 0, 4));
        keeps("cheapest()", Check.INDEX, false, x -> x.cheapest(3, 0, 0));
        keeps("cheapest() of no part", Check.ARGUMENT, false, x -> x.cheapest(0, 0, 4));
        keeps("build()", Check.INDEX, false, x -> x.build(3, 0, 0));
        keeps("build() of no part", Check.ARGUMENT, false, x -> x.build(0, 0, 4));
        keeps("build() of no tree", Check.STATE, false, x -> x.build(1, 0, 3));
        keeps("node()", Check.INDEX, false, x -> x.node(5, 0));
        keeps("a put() that answers false", false, false, x -> x.put(9, 0));
        check.end();
    }

    private interface Deed {
        Object on(WeightedTrees x);
    }

    private static void keeps(String what, Object due, boolean emptiesDraft, Deed deed) {
        WeightedTrees x = Check.parsed(GRAMMAR, "abb");
        x.build(0, 0, 3);
        if (!emptiesDraft) {
            Check.write(x, DRAFT);
        }
        String before = state(x);
        check.due(what, due, () -> deed.on(x));
        check.due("the state behind " + what, before, () -> state(x));
        check.due("the draft behind " + what, !emptiesDraft, x::parse);
        check.due("its letters behind " + what, emptiesDraft ? 0 : 2, () -> x.count(2));
        check.due("sums behind " + what, emptiesDraft ? 0L : 210L, () -> x.inside(0, 0, x.count(2)));
    }

    private static String state(WeightedTrees x) {
        StringBuilder state = new StringBuilder();
        for (int which = 0; which <= 2; which++) {
            state.append(x.count(which)).append(' ');
        }
        for (int rule = 0; rule < 4; rule++) {
            state.append(x.weight(rule)).append(' ');
        }
        for (int s = 0; s < 3; s++) {
            state.append((char) x.name(s)).append(x.empty(s)).append(' ');
            for (int t = 0; t < 3; t++) {
                state.append(x.unit(s, t)).append(' ');
            }
            for (int j = 0; j <= 3; j++) {
                state.append(x.inside(s, 0, j)).append(':').append(x.cheapest(s, 0, j)).append(' ');
            }
        }
        for (int k = 0; k < 5; k++) {
            state.append(Check.node(x, k)).append(' ');
        }
        return state.toString();
    }
}
