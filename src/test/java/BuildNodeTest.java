/** Promises 14 (build) and 15 (node). */
public final class BuildNodeTest {
    private static final Check check = new Check();

    public static void main(String[] args) {
        theLeastCost();
        theLeastRule();
        theShortestParts();
        theTreesOfThePartsAreTheTrees();
        theOrderOfTheNodes();
        emptyPartsHaveTheirPlaces();
        howManyCanBeLookedAt();
        theLatestTree();
        whatIsNoNode();
        whatCannotBeBuilt();
        check.end();
    }

    private static void due(String grammar, String text, String tree) {
        WeightedTrees x = Check.parsed(grammar, text);
        check.due("tree by " + grammar, tree, () -> Check.tree(x, 0, 0, text.length()));
    }

    private static void theLeastCost() {
        due("S=a 1 5\nS=A 1 0\nA=a 1 4", "a", "2 1:0-1 2:0-1");
        due("S=A 1 0\nS=a 1 5\nA=a 1 6", "a", "1 1:0-1");
        due("S=AA 1 0\nA=a 1 1\nA=aa 1 0\nA= 1 0", "aa", "3 0:0-2 3:0-0 2:0-2");
        due("S=AA 1 0\nA=a 1 1\nA=aa 1 3\nA= 1 0", "aa", "3 0:0-2 1:0-1 1:1-2");
    }

    private static void theLeastRule() {
        due("S=a 1 5\nS=A 1 0\nA=a 1 5", "a", "1 0:0-1");
        due("S=A 1 0\nS=a 1 5\nA=a 1 5", "a", "2 0:0-1 2:0-1");
        due("S=a 1 5\nS=a 1 5\nS=a 9 5", "a", "1 0:0-1");
        due("A=b 1 0\nS=A 1 0\nA=aS 1 1\nA=aA 1 1", "ab", "3 2:0-2 1:1-2 0:1-2");
        // The rule's number goes ahead of the parts' lengths.
        due("S=BA 1 0\nS=AB 1 0\nA= 1 1\nB=a 1 1", "a", "3 0:0-1 3:0-1 2:1-1");
    }

    private static void theShortestParts() {
        due("S=AB 1 0\nA= 1 1\nA=a 1 1\nB= 1 1\nB=a 1 1", "a", "3 0:0-1 1:0-0 4:0-1");
        due("S=SS 1 1\nS=a 1 1", "aaa", "5 0:0-3 1:0-1 0:1-3 1:1-2 1:2-3");
        due("S=aAAa 1 1\nA=a 1 1\nA=aa 1 1", "aaaaa", "3 0:0-5 1:1-2 2:2-4");
        due("S=AAA 1 0\nA= 1 0\nA=aA 1 0", "aa", "6 0:0-2 1:0-0 1:0-0 2:0-2 2:1-2 1:2-2");
        // The first one can not be shorter; of the second and third the second is.
        due("S=ABB 1 0\nA=aa 1 0\nB=a 1 0\nB=aa 1 0", "aaaaa", "4 0:0-5 1:0-2 2:2-3 3:3-5");
        due("S=BABB 1 0\nA=aa 1 0\nB=a 1 0\nB=aa 1 0", "aaaaaaa", "5 0:0-7 2:0-1 1:1-3 3:3-5 3:5-7");
        // A shorter part that costs more is not taken.
        due("S=AB 1 0\nA=a 1 5\nA=aa 1 4\nB=a 1 0\nB=aa 1 0", "aaa", "3 0:0-3 2:0-2 3:2-3");
    }

    private static void theTreesOfThePartsAreTheTrees() {
        due("S=AA 1 0\nA=B 1 1\nA=a 1 2\nB=a 1 1\nA=b 1 3\nA=C 1 2\nC=b 1 1", "ab",
                "4 0:0-2 1:0-1 3:0-1 4:1-2");
        due("S=SS 1 1\nS=a 1 1\nS=aa 1 4", "aaaa",
                "7 0:0-4 1:0-1 0:1-4 1:1-2 0:2-4 1:2-3 1:3-4");
        due("S=SS 1 1\nS=a 1 1\nS=aa 1 2", "aaaa", "3 0:0-4 2:0-2 2:2-4");
    }

    private static void theOrderOfTheNodes() {
        due("S=AbBc 1 1\nA=CC 1 1\nB=aC 1 1\nC=a 1 1", "aabaac",
                "6 0:0-6 1:0-2 3:0-1 3:1-2 2:3-5 3:4-5");
        due("S=abab 1 1", "abab", "1 0:0-4");
        WeightedTrees x = Check.parsed("S=aSb 1 1\nS= 1 1", "aaabbb");
        check.due("a part from the second place", "3 0:1-5 0:2-4 1:3-3", () -> Check.tree(x, 0, 1, 5));
        WeightedTrees y = Check.parsed("S=AB 1 1\nA=a 1 1\nB=bA 1 1", "zabaz");
        check.due("a part in the middle", "4 0:1-4 1:1-2 2:2-4 1:3-4", () -> Check.tree(y, 0, 1, 4));
        check.due("another nonterminal", "2 2:2-4 1:3-4", () -> Check.tree(y, 2, 2, 4));
    }

    private static void emptyPartsHaveTheirPlaces() {
        WeightedTrees x = Check.parsed("S=EaEE 1 1\nE=FF 1 1\nF= 1 1", "aaa");
        check.due("about the middle letter",
                "10 0:1-2 1:1-1 2:1-1 2:1-1 1:2-2 2:2-2 2:2-2 1:2-2 2:2-2 2:2-2", () -> Check.tree(x, 0, 1, 2));
        for (int i = 0; i <= 3; i++) {
            int at = i;
            String here = ":" + i + "-" + i;
            check.due("no letters at " + i, "3 1" + here + " 2" + here + " 2" + here, () -> Check.tree(x, 1, at, at));
        }
        due("S= 1 1", "", "1 0:0-0");
    }

    private static void howManyCanBeLookedAt() {
        String hundred = "S=TTT 1 0\nT=UUUU 1 0\nU=XXXB 1 0\nX=B 1 0\nB= 1 0";
        WeightedTrees x = Check.parsed(hundred, "");
        check.due("a hundred nodes", 100, () -> x.build(0, 0, 0));
        check.due("the last one", "4:0-0", () -> Check.node(x, 99));
        check.due("none behind it", Check.INDEX, () -> x.node(100, 0));
        WeightedTrees y = Check.parsed("R=TTTB 1 0\n" + hundred.substring(hundred.indexOf('T', 6)), "");
        check.due("a hundred and one", 101, () -> y.build(0, 0, 0));
        check.due("the hundredth", "4:0-0", () -> Check.node(y, 99));
        check.due("the last one", Check.INDEX, () -> y.node(100, 0));
        WeightedTrees z = Check.parsed(
                "S=AAAA 1 1\nA=BBBB 1 1\nB=CCCC 1 1\nC=DDDD 1 1\nD=EEEE 1 1\nE= 1 1\nE=a 1 1", "a");
        check.due("many nodes", 1365, () -> z.build(0, 0, 1));
        int[] rules = {0, 1, 2, 3, 4, 5, 5, 5, 5, 4, 5, 5, 5, 5, 4, 5, 5, 5, 5, 4, 5, 5, 5, 5, 3, 4};
        for (int k = 0; k < rules.length; k++) {
            int n = k;
            check.due("node " + k, rules[k] + ":0-" + (k < 1 ? 1 : 0), () -> Check.node(z, n));
        }
        // The first tree of B has 85 nodes, from node 2 on.
        check.due("node 86", "5:0-0", () -> Check.node(z, 86));
        check.due("node 87", "2:0-0", () -> Check.node(z, 87));
        check.due("node 99", "4:0-0", () -> Check.node(z, 99));
        check.due("node 100", Check.INDEX, () -> z.node(100, 0));
        check.due("node 1364", Check.INDEX, () -> z.node(1364, 0));
    }

    private static void theLatestTree() {
        WeightedTrees x = Check.parsed("S=SS 1 1\nS=a 1 1", "aaa");
        check.due("no tree yet", Check.INDEX, () -> x.node(0, 0));
        check.due("five nodes", 5, () -> x.build(0, 0, 3));
        check.due("one node", 1, () -> x.build(0, 2, 3));
        check.due("its node", "1:2-3", () -> Check.node(x, 0));
        check.due("none of the one before", Check.INDEX, () -> x.node(1, 0));
        x.inside(0, 0, 3);
        Check.write(x, "aa");
        x.scrap();
        check.due("it stays", "1:2-3", () -> Check.node(x, 0));
        check.due("the same text again", true, () -> Check.parse(x, "aaa"));
        check.due("none since parse()", Check.INDEX, () -> x.node(0, 0));
        check.due("five nodes again", 5, () -> x.build(0, 0, 3));
        check.due("a text without a tree", false, () -> Check.parse(x, "b"));
        check.due("none since that, too", Check.INDEX, () -> x.node(0, 0));
        check.due("a text again", true, () -> Check.parse(x, "a"));
        check.due("one node again", 1, () -> x.build(0, 0, 1));
        check.due("load()", 1, () -> Check.load(x, "S=a 1 1"));
        check.due("none since load()", Check.INDEX, () -> x.node(0, 0));
    }

    private static void whatIsNoNode() {
        WeightedTrees x = Check.parsed("S=Sa 1 1\nS= 1 1", "aa");
        x.build(0, 0, 2);
        check.due("node 2", "1:0-0", () -> Check.node(x, 2));
        for (int k : new int[] {-1, 3, 4, 99, 100, 101, Integer.MIN_VALUE, Integer.MAX_VALUE}) {
            for (int which = -1; which <= 3; which++) {
                int w = which;
                check.due("node(" + k + ", " + w + ")", Check.INDEX, () -> x.node(k, w));
            }
        }
        for (int which : new int[] {-1, 3, 4, Integer.MIN_VALUE, Integer.MAX_VALUE}) {
            check.due("node(0, " + which + ")", -1, () -> x.node(0, which));
            check.due("node(2, " + which + ")", -1, () -> x.node(2, which));
        }
    }

    private static void whatCannotBeBuilt() {
        WeightedTrees x = Check.loaded("S=ab 1 1\nT=X 1 1");
        check.due("no text, no nonterminal", Check.INDEX, () -> x.build(3, 0, 0));
        check.due("no text", Check.ARGUMENT, () -> x.build(0, 0, 0));
        Check.parse(x, "ab");
        check.due("no nonterminal, no part", Check.INDEX, () -> x.build(3, 2, 1));
        check.due("no nonterminal", Check.INDEX, () -> x.build(-1, 0, 2));
        check.due("no part", Check.ARGUMENT, () -> x.build(0, 2, 1));
        check.due("no part", Check.ARGUMENT, () -> x.build(0, 0, 3));
        check.due("no part", Check.ARGUMENT, () -> x.build(0, -1, 2));
        check.due("no part of one without a tree", Check.ARGUMENT, () -> x.build(1, 0, 3));
        check.due("no tree", Check.STATE, () -> x.build(0, 0, 1));
        check.due("no tree for no letters", Check.STATE, () -> x.build(0, 1, 1));
        check.due("no tree of one without rules", Check.STATE, () -> x.build(2, 0, 1));
        check.due("a tree", 1, () -> x.build(0, 0, 2));
        check.due("a tree of weight 0", 1, () -> Check.parsed("S=a 0 1", "a").build(0, 0, 1));
    }
}
