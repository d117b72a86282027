/** Promises 6 (parse) and 7 (count). */
public final class ParseCountTest {
    private static final Check check = new Check();

    public static void main(String[] args) {
        whetherThereIsATree();
        onlyNonterminalZeroCounts();
        weightsDoNotCount();
        whatIsNoText();
        withoutAGrammar();
        becomesTheText();
        leavesAnEmptyDraft();
        counts();
        check.end();
    }

    private static void whetherThereIsATree() {
        String balanced = "S=aSbS 1 1\nS= 1 1";
        for (String text : new String[] {"", "ab", "abab", "aabb", "aababb", "aaaabbbb", "abababab"}) {
            check.due(text, true, () -> Check.parse(Check.loaded(balanced), text));
        }
        for (String text : new String[] {"a", "b", "ba", "aab", "abb", "abc", "abba", "z", "aaaabbba"}) {
            check.due(text, false, () -> Check.parse(Check.loaded(balanced), text));
        }
        check.due("azaz", true, () -> Check.parse(Check.loaded("S=azaz 1 1"), "azaz"));
        check.due("the empty text, no tree", false, () -> Check.loaded("S=a 1 1").parse());
        check.due("the empty text, a tree", true, () -> Check.loaded("S= 1 1").parse());
    }

    private static void onlyNonterminalZeroCounts() {
        WeightedTrees x = Check.loaded("S=Tb 1 1\nT=a 1 1");
        check.due("a is a T", false, () -> Check.parse(x, "a"));
        check.due("and no S", -1, () -> x.cheapest(0, 0, 1));
        check.due("but a T", 1, () -> x.cheapest(1, 0, 1));
        check.due("ab is an S", true, () -> Check.parse(x, "ab"));
        check.due("the head that stands first", true, () -> Check.parse(Check.loaded("T=a 1 1\nS=Tb 1 1"), "a"));
        check.due("a nonterminal without rules", false, () -> Check.parse(Check.loaded("S=X 1 1"), "a"));
    }

    private static void weightsDoNotCount() {
        check.due("a weight of 0", true, () -> Check.parse(Check.loaded("S=a 0 1"), "a"));
        check.due("a sum that wraps to 0", true,
                () -> Check.parse(Check.loaded("S=AS 1 1\nS=A 1 1\nA=a 512 1"), "aaaaaaaa"));
        check.due("an empty part of weight 0", true, () -> Check.parse(Check.loaded("S=aA 1 1\nA= 0 1"), "a"));
    }

    private static void whatIsNoText() {
        String[] drafts = {"aaaaaaaaa", "A", "aA", "aaaaaaa ", " ", "\n", "a\n", "`", "{", "1", "a#", "S=a 1 1"};
        for (String draft : drafts) {
            WeightedTrees x = Check.parsed("S=a 1 1", "a");
            check.due("parse of " + draft, Check.ARGUMENT, () -> Check.parse(x, draft));
            check.due("the text before stays", 1, () -> x.count(2));
            check.due("and what is told of it", 1, () -> x.inside(0, 0, 1));
            check.due("the draft is empty", false, x::parse);
            check.due("and was the text", 0, () -> x.count(2));
        }
    }

    private static void withoutAGrammar() {
        WeightedTrees x = new WeightedTrees();
        check.due("a text", Check.STATE, () -> Check.parse(x, "ab"));
        check.due("no text", Check.ARGUMENT, () -> Check.parse(x, "aB"));
        check.due("too long a text", Check.ARGUMENT, () -> Check.parse(x, "aaaaaaaaa"));
        check.due("the empty text", Check.STATE, x::parse);
        check.due("count(2)", -1, () -> x.count(2));
        check.due("a grammar behind it", 1, () -> Check.load(x, "S=a 1 1"));
        check.due("count(2) of a new grammar", -1, () -> x.count(2));
    }

    private static void becomesTheText() {
        WeightedTrees x = Check.loaded("S=aS 2 1\nS=a 3 1\nS=b 5 7");
        check.due("aaaaaaaa", true, () -> Check.parse(x, "aaaaaaaa"));
        check.due("a shorter one", true, () -> Check.parse(x, "ab"));
        check.due("its letters", 2, () -> x.count(2));
        check.due("its parts", 10, () -> x.inside(0, 0, 2));
        check.due("its second letter", 5, () -> x.inside(0, 1, 2));
        check.due("parts of the one before", Check.ARGUMENT, () -> x.inside(0, 0, 3));
        check.due("one without a tree", false, () -> Check.parse(x, "bac"));
        check.due("its letters", 3, () -> x.count(2));
        check.due("its first letter", 5, () -> x.inside(0, 0, 1));
        check.due("all of it", 0, () -> x.inside(0, 0, 3));
        check.due("its last letter", -1, () -> x.cheapest(0, 2, 3));
        check.due("a longer one again", true, () -> Check.parse(x, "aaab"));
        check.due("all of it", 40, () -> x.inside(0, 0, 4));
    }

    private static void leavesAnEmptyDraft() {
        WeightedTrees x = Check.loaded("S=a 1 1\nS=aa 1 1");
        check.due("a", true, () -> Check.parse(x, "a"));
        check.due("the draft behind it", false, x::parse);
        check.due("a again", true, () -> Check.parse(x, "a"));
        check.due("one letter", 1, () -> x.count(2));
        WeightedTrees y = new WeightedTrees();
        check.due("without a grammar", Check.STATE, () -> Check.parse(y, "x"));
        check.due("the draft was emptied", 1, () -> Check.load(y, "S=a 1 1"));
    }

    private static void counts() {
        WeightedTrees x = Check.loaded("S=AB 1 1\nA=a 1 1\nS=bC 1 1\nA= 1 1");
        check.due("rules", 4, () -> x.count(0));
        check.due("nonterminals", 4, () -> x.count(1));
        check.due("letters without a text", -1, () -> x.count(2));
        for (int length = 0; length <= 8; length++) {
            int n = length;
            Check.parse(x, "b".repeat(n));
            check.due("letters", n, () -> x.count(2));
        }
        for (int which : new int[] {-1, 3, 4, 100, Integer.MIN_VALUE, Integer.MAX_VALUE}) {
            check.due("count(" + which + ")", -1, () -> x.count(which));
        }
    }
}
