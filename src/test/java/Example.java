/** The example of README.md. */
public final class Example {
    public static void main(String[] args) {
        WeightedTrees trees = new WeightedTrees();
        write(trees, "# letters a, and perhaps a b\nS=AE 1 0\nA=AA 1 1\nA=a 1/3 1\nE= 2 0\nE=b 5 2");
        System.out.println("rules: " + trees.load());
        System.out.println("nonterminals: " + trees.count(1) + ", the first is " + (char) trees.name(0));
        System.out.println("three times the weight of rule 2: " + 3 * trees.weight(2));
        System.out.println("weights of E for no letters: " + trees.empty(2));
        System.out.println("weights from S to A alone: " + trees.unit(0, 1));

        write(trees, "aab");
        System.out.println("S has a tree for aab: " + trees.parse());
        System.out.println("nine times the weights of S for aab: " + 9 * trees.inside(0, 0, 3));
        System.out.println("least cost: " + trees.cheapest(0, 0, 3));
        int nodes = trees.build(0, 0, 3);
        for (int k = 0; k < Math.min(nodes, 100); k++) {
            System.out.println("node " + k + ": rule " + trees.node(k, 0)
                    + " from " + trees.node(k, 1) + " to " + trees.node(k, 2));
        }

        write(trees, "S=a 1/3 0\nS=b 1/2 0");
        try {
            trees.load();
        } catch (IllegalArgumentException e) {
            System.out.println("wrong at line " + trees.wrong());
        }
    }

    /** Puts a text into the draft, up to eight characters at once, the first one highest. */
    private static void write(WeightedTrees trees, String text) {
        for (int start = 0; start < text.length(); start += 8) {
            int n = Math.min(8, text.length() - start);
            long codes = 0;
            for (int k = 0; k < n; k++) {
                codes = codes << 8 | text.charAt(start + k);
            }
            if (!trees.put(n, codes)) {
                trees.scrap();
                return;
            }
        }
    }
}
