/** Counts and prints the calls whose answer is not the one that is due. */
final class Check {
    /** A call whose answer, or exception, is looked at. */
    interface Call {
        Object answer();
    }

    static final Class<?> INDEX = IndexOutOfBoundsException.class;
    static final Class<?> ARGUMENT = IllegalArgumentException.class;
    static final Class<?> STATE = IllegalStateException.class;

    private int calls = 0;
    private int wrong = 0;

    /** What is due is a value, or the class of the exception. */
    void due(String what, Object due, Call call) {
        calls++;
        Object got;
        try {
            got = call.answer();
        } catch (RuntimeException e) {
            got = e.getClass();
        }
        if (!String.valueOf(due).equals(String.valueOf(got))) {
            wrong++;
            System.out.println(what + " answered " + got + ", due is " + due);
        }
    }

    /** A new object takes the grammar. */
    WeightedTrees loads(String grammar, int rules) {
        WeightedTrees x = new WeightedTrees();
        due("load of " + grammar, rules, () -> load(x, grammar));
        due("wrong() behind " + grammar, 0, x::wrong);
        due("count(0) behind " + grammar, rules, () -> x.count(0));
        return x;
    }

    /** A new object finds the grammar wrong at a line. */
    void isWrong(String grammar, int line) {
        WeightedTrees x = new WeightedTrees();
        due("load of " + grammar, ARGUMENT, () -> load(x, grammar));
        due("wrong() behind " + grammar, line, x::wrong);
        due("count(0) behind " + grammar, -1, () -> x.count(0));
    }

    /** A new object finds that the grammar loops. */
    void loops(String grammar) {
        WeightedTrees x = new WeightedTrees();
        due("load of " + grammar, STATE, () -> load(x, grammar));
        due("wrong() behind " + grammar, 0, x::wrong);
        due("count(0) behind " + grammar, -1, () -> x.count(0));
    }

    void end() {
        System.out.println(calls + " answers, of which " + wrong + " are not as due");
        if (wrong != 0) {
            System.exit(1);
        }
    }

    /** The codes of up to eight characters as put() takes them. */
    static long codes(String text) {
        long codes = 0;
        for (int k = 0; k < text.length(); k++) {
            codes = codes << 8 | text.charAt(k);
        }
        return codes;
    }

    static void write(WeightedTrees x, String text) {
        for (int k = 0; k < text.length(); k += 8) {
            String piece = text.substring(k, Math.min(k + 8, text.length()));
            if (!x.put(piece.length(), codes(piece))) {
                throw new AssertionError("put refused: " + piece);
            }
        }
    }

    static int load(WeightedTrees x, String grammar) {
        write(x, grammar);
        return x.load();
    }

    static boolean parse(WeightedTrees x, String text) {
        write(x, text);
        return x.parse();
    }

    static WeightedTrees loaded(String grammar) {
        WeightedTrees x = new WeightedTrees();
        load(x, grammar);
        return x;
    }

    static WeightedTrees parsed(String grammar, String text) {
        WeightedTrees x = loaded(grammar);
        parse(x, text);
        return x;
    }

    /** The node as "rule:from-to". */
    static String node(WeightedTrees x, int k) {
        return x.node(k, 0) + ":" + x.node(k, 1) + "-" + x.node(k, 2);
    }

    /** How many nodes the tree has, and those of the first 100. */
    static String tree(WeightedTrees x, int s, int i, int j) {
        int size = x.build(s, i, j);
        StringBuilder nodes = new StringBuilder().append(size);
        for (int k = 0; k < Math.min(size, 100); k++) {
            nodes.append(' ').append(node(x, k));
        }
        return nodes.toString();
    }
}
