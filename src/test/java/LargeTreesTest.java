import java.util.List;

/** Grammars with more and larger trees than the oracle can make, always the same ones. */
public final class LargeTreesTest {
    private static final int GRAMMARS = 150;

    private static final Check check = new Check();
    private static final Samples samples = new Samples(1365);

    private static int loaded = 0;
    private static int trees = 0;
    private static int above100 = 0;

    public static void main(String[] args) {
        for (int k = 0; k < GRAMMARS; k++) {
            compare(samples.layered());
        }
        System.out.println(loaded + " grammars loaded, " + trees + " trees, "
                + above100 + " of them with more than 100 nodes");
        // Too few of one kind would mean that this test looks at nothing.
        check.due("enough of each kind", true, () -> loaded > 100 && trees > 2000 && above100 > 100);
        check.end();
    }

    private static void compare(String grammar) {
        Oracle oracle = new Oracle(grammar);
        if (oracle.loops()) {
            check.loops(grammar);
            return;
        }
        loaded++;
        compareGrammar(grammar, oracle);
        String text = samples.text(8);
        Recursion due = new Recursion(oracle, text);
        check.due("parse of " + text + " by " + grammar, due.hasTree(oracle.nonterminals.charAt(0), 0, 8),
                () -> Check.parse(Check.loaded(grammar), text));
        for (int s = 0; s < oracle.nonterminals.length(); s++) {
            for (int i = 0; i <= 8; i++) {
                for (int j = i; j <= 8; j++) {
                    // A new object each time, as one is made for 512 calls.
                    comparePart(Check.parsed(grammar, text), due, oracle.nonterminals.charAt(s), new int[] {s, i, j},
                            "(" + s + ", " + i + ", " + j + ") of " + text + " by " + grammar);
                }
            }
        }
    }

    private static void compareGrammar(String grammar, Oracle oracle) {
        WeightedTrees x = Check.loaded(grammar);
        Recursion none = new Recursion(oracle, "");
        for (int t = 0; t < oracle.nonterminals.length(); t++) {
            int to = t;
            check.due("empty(" + t + ") of " + grammar, none.inside(oracle.nonterminals.charAt(t), 0, 0),
                    () -> x.empty(to));
            Recursion leaf = new Recursion(oracle.withLeaf(t), "*");
            for (int s = 0; s < oracle.nonterminals.length(); s++) {
                int from = s;
                check.due("unit(" + s + ", " + t + ") of " + grammar, leaf.inside(oracle.nonterminals.charAt(s), 0, 1),
                        () -> x.unit(from, to));
            }
        }
    }

    private static void comparePart(WeightedTrees x, Recursion due, char s, int[] part, String what) {
        int i = part[1];
        int j = part[2];
        check.due("inside" + what, due.inside(s, i, j), () -> x.inside(part[0], i, j));
        check.due("cheapest" + what, due.cheapest(s, i, j), () -> x.cheapest(part[0], i, j));
        if (due.hasTree(s, i, j)) {
            compareTree(x, due.nodes(s, i, j), part, what);
        } else {
            check.due("build" + what, Check.STATE, () -> x.build(part[0], i, j));
        }
    }

    private static void compareTree(WeightedTrees x, List<String> nodes, int[] part, String what) {
        trees++;
        above100 += nodes.size() > 100 ? 1 : 0;
        int shown = Math.min(nodes.size(), 100);
        check.due("tree" + what, nodes.size() + " " + String.join(" ", nodes.subList(0, shown)),
                () -> Check.tree(x, part[0], part[1], part[2]));
        check.due("the node behind the last one shown" + what, Check.INDEX, () -> x.node(shown, 0));
    }
}
