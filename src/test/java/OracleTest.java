/** Many small grammars and texts, always the same ones, by the program and by the oracle. */
public final class OracleTest {
    private static final int GRAMMARS = 4000;
    private static final int MOST_TREES = Model.MOST_TREES;

    private static final Check check = new Check();
    private static final Samples samples = new Samples(20261115);

    private static int loaded = 0;
    private static int looping = 0;
    private static int wrong = 0;
    private static int texts = 0;
    private static int trees = 0;

    public static void main(String[] args) {
        for (int k = 0; k < GRAMMARS; k++) {
            compare(k % 4 == 0 ? samples.spoiled(samples.grammar()) : samples.grammar());
        }
        System.out.println(loaded + " grammars loaded, " + looping + " looping, " + wrong + " wrong; "
                + texts + " texts, " + trees + " trees");
        // Too few of one kind would mean that this test looks at nothing.
        check.due("enough of each kind", true,
                () -> loaded > 500 && looping > 100 && wrong > 100 && texts > 500 && trees > 5000);
        check.end();
    }

    private static void compare(String grammar) {
        Oracle oracle = new Oracle(grammar);
        WeightedTrees x = new WeightedTrees();
        boolean isWrong = oracle.wrongLine != 0;
        boolean isLooping = !isWrong && oracle.loops();
        check.due("load of " + grammar, isWrong ? Check.ARGUMENT : isLooping ? Check.STATE : oracle.rules.size(),
                () -> Check.load(x, grammar));
        check.due("wrong() of " + grammar, oracle.wrongLine, x::wrong);
        if (isWrong) {
            wrong++;
        } else if (isLooping) {
            looping++;
        } else {
            loaded++;
            compareGrammar(grammar, oracle, x);
            for (int k = 0; k < 2; k++) {
                compareText(grammar, oracle, samples.text());
            }
        }
    }

    private static void compareGrammar(String grammar, Oracle oracle, WeightedTrees x) {
        int count = oracle.nonterminals.length();
        check.due("nonterminals of " + grammar, count, () -> x.count(1));
        for (int rule = 0; rule < oracle.rules.size(); rule++) {
            int r = rule;
            check.due("weight(" + r + ") of " + grammar, oracle.rules.get(r).weight(), () -> x.weight(r));
        }
        Oracle.Forest empty = oracle.forest("", MOST_TREES);
        for (int s = 0; s < count; s++) {
            int from = s;
            check.due("name(" + s + ") of " + grammar, (int) oracle.nonterminals.charAt(s), () -> x.name(from));
            if (empty != null) {
                check.due("empty(" + s + ") of " + grammar, empty.inside(s, 0, 0), () -> x.empty(from));
            }
            for (int t = 0; t < count; t++) {
                int to = t;
                Long unit = oracle.unit(s, t, MOST_TREES);
                if (unit != null) {
                    check.due("unit(" + s + ", " + t + ") of " + grammar, unit, () -> x.unit(from, to));
                }
            }
        }
    }

    private static void compareText(String grammar, Oracle oracle, String text) {
        Oracle.Forest forest = oracle.forest(text, MOST_TREES);
        if (forest == null) {
            return;
        }
        texts++;
        check.due("parse of " + text + " by " + grammar, forest.theTree(0, 0, text.length()) != null,
                () -> Check.parse(Check.loaded(grammar), text));
        for (int s = 0; s < oracle.nonterminals.length(); s++) {
            for (int i = 0; i <= text.length(); i++) {
                for (int j = i; j <= text.length(); j++) {
                    // A new object each time, as one is made for 512 calls.
                    comparePart(Check.parsed(grammar, text), forest, new int[] {s, i, j},
                            "(" + s + ", " + i + ", " + j + ") of " + text + " by " + grammar);
                }
            }
        }
    }

    private static void comparePart(WeightedTrees x, Oracle.Forest forest, int[] part, String what) {
        int s = part[0];
        int i = part[1];
        int j = part[2];
        Oracle.Tree tree = forest.theTree(s, i, j);
        check.due("inside" + what, forest.inside(s, i, j), () -> x.inside(s, i, j));
        check.due("cheapest" + what, forest.cheapest(s, i, j), () -> x.cheapest(s, i, j));
        if (tree == null) {
            check.due("build" + what, Check.STATE, () -> x.build(s, i, j));
        } else {
            trees++;
            check.due("tree" + what, firstNodes(tree), () -> Check.tree(x, s, i, j));
        }
    }

    private static String firstNodes(Oracle.Tree tree) {
        String[] nodes = tree.nodes().substring(1).split(" ");
        StringBuilder first = new StringBuilder().append(tree.size());
        for (int k = 0; k < Math.min(nodes.length, 100); k++) {
            first.append(' ').append(nodes[k]);
        }
        return first.toString();
    }
}
