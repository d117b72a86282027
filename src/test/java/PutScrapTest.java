/** Promises 2 (put) and 3 (scrap). */
public final class PutScrapTest {
    private static final Check check = new Check();

    public static void main(String[] args) {
        theHighestCharacterIsFirst();
        higherBitsDoNotCount();
        howManyAtOnce();
        whichCharacters();
        aRefusedPutAppendsNothing();
        threeHundredAreTheMost();
        aLongDraftIsKeptWhole();
        scrapEmptiesTheDraft();
        check.end();
    }

    private static void theHighestCharacterIsFirst() {
        for (String text : new String[] {"a", "ab", "abc", "abcd", "abcde", "abcdef", "abcdefg", "abcdefgh"}) {
            WeightedTrees x = Check.loaded(grammarFor(text));
            check.due("put of " + text, true, () -> x.put(text.length(), Check.codes(text)));
            check.due("parse of " + text, true, x::parse);
            check.due("letters of " + text, text.length(), () -> x.count(2));
        }
    }

    /** A grammar with this text alone, of up to eight letters. */
    private static String grammarFor(String text) {
        int middle = Math.min(4, text.length());
        return "S=XY 1 0\nX=" + text.substring(0, middle) + " 1 0\nY=" + text.substring(middle) + " 1 0";
    }

    private static void higherBitsDoNotCount() {
        WeightedTrees x = Check.loaded("S=ab 1 1");
        check.due("put with high bits", true, () -> x.put(1, 0xFFFF_FFFF_FFFF_FF61L));
        check.due("put with a zero above", true, () -> x.put(1, 0x0162L));
        check.due("parse of ab", true, x::parse);
    }

    private static void howManyAtOnce() {
        WeightedTrees x = Check.loaded("S=a 1 1");
        long codes = Check.codes("aaaaaaaa");
        for (int n : new int[] {0, -1, 9, 10, 16, Integer.MAX_VALUE, Integer.MIN_VALUE, 257, -8}) {
            check.due("put(" + n + ", ..)", false, () -> x.put(n, codes));
        }
        check.due("put(1, ..)", true, () -> x.put(1, codes));
        check.due("only one was appended", true, x::parse);
        check.due("put(8, ..)", true, () -> x.put(8, codes));
        check.due("eight make a text", false, x::parse);
        check.due("count(2)", 8, () -> x.count(2));
    }

    private static void whichCharacters() {
        WeightedTrees x = new WeightedTrees();
        for (int code = 0; code < 256; code++) {
            int c = code;
            boolean isAllowed = c == 10 || c >= 32 && c <= 126;
            check.due("put(1, " + c + ")", isAllowed, () -> x.put(1, c));
        }
    }

    private static void aRefusedPutAppendsNothing() {
        WeightedTrees x = Check.loaded("S=ab 1 1");
        Check.write(x, "a");
        check.due("wrong first", false, () -> x.put(3, 0x1F6161L));
        check.due("wrong in the middle", false, () -> x.put(3, 0x617F61L));
        check.due("wrong last", false, () -> x.put(3, 0x616100L));
        check.due("wrong in all eight", false, () -> x.put(8, -1L));
        Check.write(x, "b");
        check.due("the draft is ab", true, x::parse);
    }

    private static void threeHundredAreTheMost() {
        WeightedTrees x = new WeightedTrees();
        for (int k = 0; k < 37; k++) {
            check.due("put " + k, true, () -> x.put(8, Check.codes("########")));
        }
        check.due("five more than 296", false, () -> x.put(5, Check.codes("#####")));
        check.due("four more than 296", true, () -> x.put(4, Check.codes("####")));
        for (int n = 1; n <= 8; n++) {
            int more = n;
            check.due(n + " more than 300", false, () -> x.put(more, Check.codes("########")));
        }
        x.scrap();
        check.due("one behind scrap()", true, () -> x.put(1, '#'));
    }

    private static void aLongDraftIsKeptWhole() {
        String rule = "\nS=ab 7 1";
        WeightedTrees x = new WeightedTrees();
        check.due("a grammar of 300 characters", 1, () -> Check.load(x, "#" + "x".repeat(299 - rule.length()) + rule));
        check.due("its weight", 7, () -> x.weight(0));
        WeightedTrees y = new WeightedTrees();
        Check.write(y, "\n".repeat(300));
        check.due("301 empty lines", Check.ARGUMENT, y::load);
        check.due("the line behind them", 302, y::wrong);
    }

    private static void scrapEmptiesTheDraft() {
        WeightedTrees x = Check.parsed("S=a 1 1\nS= 1 1", "a");
        x.build(0, 0, 1);
        Check.write(x, "S=b 2 2");
        x.scrap();
        check.due("the grammar stays", 2, () -> x.count(0));
        check.due("the text stays", 1, () -> x.count(2));
        check.due("the tree stays", 0, () -> x.node(0, 0));
        x.scrap();
        check.due("the draft is the empty text", true, x::parse);
        check.due("no letters", 0, () -> x.count(2));
        Check.write(x, "zzzz");
        x.scrap();
        Check.write(x, "a");
        check.due("put behind scrap()", true, x::parse);
    }
}
