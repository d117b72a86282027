/** The face once more, with the oracle behind it: what is due in a run of calls. */
final class Model {
    static final int MOST_TREES = 1500;

    private String draft = "";
    private Oracle grammar = null;
    private String text = null;
    private Oracle.Forest forest = null;
    private Oracle.Tree tree = null;
    private int wrongLine = 0;

    boolean put(int n, long codes) {
        if (n < 1 || n > 8 || draft.length() + n > 300) {
            return false;
        }
        StringBuilder more = new StringBuilder();
        for (int k = 0; k < n; k++) {
            more.insert(0, (char) (codes >> 8 * k & 0xFF));
        }
        if (!more.toString().matches("[\n -~]*")) {
            return false;
        }
        draft += more;
        return true;
    }

    void scrap() {
        draft = "";
    }

    /** Too large a grammar or text for the oracle must not be loaded or parsed. */
    boolean knows(boolean asText) {
        Oracle read = asText ? grammar : new Oracle(draft);
        if (asText) {
            return read == null || !isText() || read.forest(draft, MOST_TREES) != null;
        }
        return read.wrongLine != 0 || read.loops()
                || read.forest("", MOST_TREES) != null && read.unitsAreFew(MOST_TREES);
    }

    private boolean isText() {
        return draft.matches("[a-z]{0,8}");
    }

    int load() {
        Oracle read = new Oracle(draft);
        draft = "";
        if (read.wrongLine != 0) {
            wrongLine = read.wrongLine;
            throw new IllegalArgumentException();
        }
        if (read.loops()) {
            throw new IllegalStateException();
        }
        grammar = read;
        text = null;
        tree = null;
        forest = grammar.forest("", MOST_TREES);
        return grammar.rules.size();
    }

    int wrong() {
        return wrongLine;
    }

    boolean parse() {
        String read = draft;
        boolean isRead = isText();
        draft = "";
        if (!isRead) {
            throw new IllegalArgumentException();
        }
        if (grammar == null) {
            throw new IllegalStateException();
        }
        text = read;
        tree = null;
        forest = grammar.forest(text, MOST_TREES);
        return forest.theTree(0, 0, text.length()) != null;
    }

    int count(int which) {
        if (which == 0 && grammar != null) {
            return grammar.rules.size();
        }
        if (which == 1 && grammar != null) {
            return grammar.nonterminals.length();
        }
        return which == 2 && text != null ? text.length() : -1;
    }

    int name(int s) {
        checkNonterminal(s);
        return grammar.nonterminals.charAt(s);
    }

    long weight(int rule) {
        checkIndex(rule, count(0));
        return grammar.rules.get(rule).weight();
    }

    long empty(int s) {
        checkNonterminal(s);
        return forest.inside(s, 0, 0);
    }

    long unit(int s, int t) {
        checkNonterminal(s);
        checkNonterminal(t);
        return grammar.unit(s, t, MOST_TREES);
    }

    long inside(int s, int i, int j) {
        checkPart(s, i, j);
        return forest.inside(s, i, j);
    }

    int cheapest(int s, int i, int j) {
        checkPart(s, i, j);
        return forest.cheapest(s, i, j);
    }

    int build(int s, int i, int j) {
        checkPart(s, i, j);
        Oracle.Tree built = forest.theTree(s, i, j);
        if (built == null) {
            throw new IllegalStateException();
        }
        tree = built;
        return tree.size();
    }

    int node(int k, int which) {
        checkIndex(k, tree == null ? 0 : Math.min(100, tree.size()));
        String[] node = tree.nodes().substring(1).split(" ")[k].split("[:-]");
        return which < 0 || which > 2 ? -1 : Integer.parseInt(node[which]);
    }

    private void checkNonterminal(int s) {
        checkIndex(s, count(1));
    }

    private void checkPart(int s, int i, int j) {
        checkNonterminal(s);
        if (text == null || i < 0 || j < i || j > text.length()) {
            throw new IllegalArgumentException();
        }
    }

    private static void checkIndex(int index, int count) {
        if (index < 0 || index >= count) {
            throw new IndexOutOfBoundsException();
        }
    }
}
