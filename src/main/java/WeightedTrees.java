/**
 * Reads a grammar whose rules have weights and costs, and tells of short texts which parts are
 * derived from which symbols, the sum of the weights of all derivations, and a cheapest tree.
 */
public final class WeightedTrees {
    public static final int NONE = -1;

    private static final int MOST_CHARACTERS = 300;
    private static final int MOST_CHARACTERS_AT_ONCE = 8;
    private static final int MOST_RULES = 12;
    private static final int MOST_SYMBOLS = 4;
    private static final int MOST_NONTERMINALS = 6;
    private static final int MOST_FIGURES = 3;
    private static final int MOST_COST = 99;
    private static final int MOST_LETTERS = 8;
    private static final int MOST_NODES_SHOWN = 100;

    private final Draft draft;
    private final Chart chart;
    private final UnitTable units;
    private final TreeListing tree;

    /** Has no rules as long as there is no grammar. */
    private Grammar grammar;

    /** A grammar is read into this one, so that a wrong one leaves the other as it was. */
    private Grammar spare;

    private int wrongLine;

    public WeightedTrees() {
        draft = new Draft();
        chart = new Chart();
        units = new UnitTable();
        tree = new TreeListing();
        grammar = new Grammar();
        spare = new Grammar();
        wrongLine = 0;
    }

    public boolean put(int n, long codes) {
        return draft.append(n, codes);
    }

    public void scrap() {
        draft.clear();
    }

    public int load() throws IllegalArgumentException, IllegalStateException {
        int line = new GrammarReader(draft, spare).firstWrongLine();
        draft.clear();
        if (line != 0) {
            wrongLine = line;
            throw new IllegalArgumentException("the grammar is wrong");
        }
        if (!spare.findOrder()) {
            throw new IllegalStateException("the grammar loops");
        }
        takeSpareGrammar();
        return grammar.ruleCount;
    }

    public int wrong() {
        return wrongLine;
    }

    public boolean parse() throws IllegalArgumentException, IllegalStateException {
        boolean isText = draft.isText();
        boolean isTaken = isText && hasGrammar();
        if (isTaken) {
            chart.takeText(draft);
        }
        draft.clear();
        if (!isText) {
            throw new IllegalArgumentException("the draft is no text");
        }
        if (!isTaken) {
            throw new IllegalStateException("there is no grammar");
        }
        tree.clear();
        chart.fillText(grammar);
        return chart.hasTree(0, 0, chart.textLength);
    }

    public int count(int which) {
        switch (which) {
            case 0:
                return hasGrammar() ? grammar.ruleCount : NONE;
            case 1:
                return hasGrammar() ? grammar.nonterminalCount : NONE;
            case 2:
                return chart.textLength;
            default:
                return NONE;
        }
    }

    public int name(int s) throws IndexOutOfBoundsException {
        requireNonterminal(s);
        return grammar.capitals[s];
    }

    public long weight(int rule) throws IndexOutOfBoundsException {
        if (rule < 0 || rule >= grammar.ruleCount) {
            throw new IndexOutOfBoundsException("there is no such rule");
        }
        return grammar.weights[rule];
    }

    public long empty(int s) throws IndexOutOfBoundsException {
        requireNonterminal(s);
        return chart.emptySum(s);
    }

    public long unit(int s, int t) throws IndexOutOfBoundsException {
        requireNonterminal(s);
        requireNonterminal(t);
        return units.sum(s, t);
    }

    public long inside(int s, int i, int j) throws IndexOutOfBoundsException, IllegalArgumentException {
        requireNonterminal(s);
        requirePart(i, j);
        return chart.sums[Chart.cell(s, i, j)];
    }

    public int cheapest(int s, int i, int j) throws IndexOutOfBoundsException, IllegalArgumentException {
        requireNonterminal(s);
        requirePart(i, j);
        return chart.costs[Chart.cell(s, i, j)];
    }

    public int build(int s, int i, int j)
            throws IndexOutOfBoundsException, IllegalArgumentException, IllegalStateException {
        requireNonterminal(s);
        requirePart(i, j);
        if (!chart.hasTree(s, i, j)) {
            throw new IllegalStateException("there is no tree");
        }
        tree.list(grammar, chart, s, i, j);
        return tree.nodeCount;
    }

    public int node(int k, int which) throws IndexOutOfBoundsException {
        if (k < 0 || k >= tree.shownCount()) {
            throw new IndexOutOfBoundsException("there is no such node");
        }
        switch (which) {
            case 0:
                return tree.rules[k];
            case 1:
                return tree.starts[k];
            case 2:
                return tree.ends[k];
            default:
                return NONE;
        }
    }

    private boolean hasGrammar() {
        return grammar.ruleCount > 0;
    }

    private void takeSpareGrammar() {
        Grammar old = grammar;
        grammar = spare;
        spare = old;
        tree.clear();
        chart.dropText();
        chart.fillPart(grammar, 0, 0);
        units.fill(grammar, chart);
    }

    private void requireNonterminal(int s) {
        if (s < 0 || s >= grammar.nonterminalCount) {
            throw new IndexOutOfBoundsException("there is no such nonterminal");
        }
    }

    private void requirePart(int i, int j) {
        // Without a text its length is NONE, so that no part passes.
        if (i < 0 || i > j || j > chart.textLength) {
            throw new IllegalArgumentException("there is no such part of a text");
        }
    }

    private static boolean isCapital(int code) {
        return code >= 'A' && code <= 'Z';
    }

    private static boolean isSmallLetter(int code) {
        return code >= 'a' && code <= 'z';
    }

    /** The characters that were put and not yet used. */
    private static final class Draft {
        final char[] characters = new char[MOST_CHARACTERS];
        int length = 0;

        void clear() {
            length = 0;
        }

        boolean append(int n, long codes) {
            if (n < 1 || n > MOST_CHARACTERS_AT_ONCE || length + n > MOST_CHARACTERS) {
                return false;
            }
            // All are looked at first: a refused call must leave nothing behind.
            for (int k = 0; k < n; k++) {
                if (!isAllowed(codeAt(codes, k))) {
                    return false;
                }
            }
            for (int k = n - 1; k >= 0; k--) {
                characters[length] = (char) codeAt(codes, k);
                length++;
            }
            return true;
        }

        boolean isText() {
            if (length > MOST_LETTERS) {
                return false;
            }
            for (int k = 0; k < length; k++) {
                if (!isSmallLetter(characters[k])) {
                    return false;
                }
            }
            return true;
        }

        int lineCount() {
            int lines = 1;
            for (int place = 0; place < length; place++) {
                if (characters[place] == '\n') {
                    lines++;
                }
            }
            return lines;
        }

        /** The place of the next newline, or of the draft's end. */
        int lineEnd(int start) {
            for (int place = start; place < length; place++) {
                if (characters[place] == '\n') {
                    return place;
                }
            }
            return length;
        }

        private static int codeAt(long codes, int placeFromLowest) {
            return (int) ((codes >>> (8 * placeFromLowest)) & 255);
        }

        private static boolean isAllowed(int code) {
            return code == '\n' || (code >= 32 && code <= 126);
        }
    }

    /**
     * The rules, and what follows from them without a text. A symbol of a body is held as the number
     * of the nonterminal or as the code of the terminal's letter; all codes are above all numbers.
     */
    private static final class Grammar {
        final int[] heads = new int[MOST_RULES];
        final int[] bodies = new int[MOST_RULES * MOST_SYMBOLS];
        final int[] bodyLengths = new int[MOST_RULES];
        final long[] weights = new long[MOST_RULES];
        final int[] costs = new int[MOST_RULES];
        final int[] capitals = new int[MOST_NONTERMINALS];

        /** The nonterminals, each behind all those that it leads to. */
        final int[] order = new int[MOST_NONTERMINALS];

        int ruleCount = 0;
        int nonterminalCount = 0;

        /** Of each nonterminal those that it leads to, as bits. */
        private final int[] reached = new int[MOST_NONTERMINALS];

        void clear() {
            ruleCount = 0;
            nonterminalCount = 0;
        }

        int symbol(int rule, int place) {
            return bodies[rule * MOST_SYMBOLS + place];
        }

        static boolean isNonterminal(int symbol) {
            return symbol < MOST_NONTERMINALS;
        }

        /** The number of a capital, a new one if need be; NONE if that were one too many. */
        int nonterminalOf(int capital) {
            for (int s = 0; s < nonterminalCount; s++) {
                if (capitals[s] == capital) {
                    return s;
                }
            }
            if (nonterminalCount == MOST_NONTERMINALS) {
                return NONE;
            }
            capitals[nonterminalCount] = capital;
            nonterminalCount++;
            return nonterminalCount - 1;
        }

        /** Answers whether there is an order, which is so if the grammar does not loop. */
        boolean findOrder() {
            findReached(emptyable());
            for (int s = 0; s < nonterminalCount; s++) {
                if (hasBit(reached[s], s)) {
                    return false;
                }
            }
            // Without loops a nonterminal reaches more of them than any one that it leads to.
            int next = 0;
            for (int howMany = 0; howMany < nonterminalCount; howMany++) {
                for (int s = 0; s < nonterminalCount; s++) {
                    if (Integer.bitCount(reached[s]) == howMany) {
                        order[next] = s;
                        next++;
                    }
                }
            }
            return true;
        }

        private static boolean hasBit(int bits, int place) {
            return ((bits >> place) & 1) != 0;
        }

        /** The emptyable nonterminals, as bits. */
        private int emptyable() {
            int found = 0;
            // A round that finds none is followed by none that does: this many are enough.
            for (int round = 0; round < nonterminalCount; round++) {
                for (int rule = 0; rule < ruleCount; rule++) {
                    if (vanishes(rule, NONE, found)) {
                        found |= 1 << heads[rule];
                    }
                }
            }
            return found;
        }

        /** Whether all symbols of the body, but for the one left aside, are among the emptyable. */
        private boolean vanishes(int rule, int aside, int emptyable) {
            for (int place = 0; place < bodyLengths[rule]; place++) {
                int symbol = symbol(rule, place);
                if (place != aside && !(isNonterminal(symbol) && hasBit(emptyable, symbol))) {
                    return false;
                }
            }
            return true;
        }

        private void findReached(int emptyable) {
            for (int s = 0; s < nonterminalCount; s++) {
                reached[s] = 0;
            }
            for (int rule = 0; rule < ruleCount; rule++) {
                for (int place = 0; place < bodyLengths[rule]; place++) {
                    int symbol = symbol(rule, place);
                    if (isNonterminal(symbol) && vanishes(rule, place, emptyable)) {
                        reached[heads[rule]] |= 1 << symbol;
                    }
                }
            }
            closeReached();
        }

        private void closeReached() {
            for (int middle = 0; middle < nonterminalCount; middle++) {
                for (int s = 0; s < nonterminalCount; s++) {
                    if (hasBit(reached[s], middle)) {
                        reached[s] |= reached[middle];
                    }
                }
            }
        }
    }

    /** Reads a draft into a grammar, line by line. */
    private static final class GrammarReader {
        private final Draft source;
        private final Grammar target;
        private int at;
        private int end;

        GrammarReader(Draft source, Grammar target) {
            this.source = source;
            this.target = target;
            at = 0;
            end = NONE;
        }

        /** The number of the first wrong line, 0 if there is none. */
        int firstWrongLine() {
            target.clear();
            int lineCount = source.lineCount();
            for (int line = 1; line <= lineCount; line++) {
                at = end + 1;
                end = source.lineEnd(at);
                if (!isLeftOut() && !readRule()) {
                    return line;
                }
            }
            return target.ruleCount == 0 ? lineCount + 1 : 0;
        }

        private boolean isLeftOut() {
            return at == end || sees('#');
        }

        /** Each part of a rule steps over itself and answers whether it is right. */
        private boolean readRule() {
            if (target.ruleCount == MOST_RULES) {
                return false;
            }
            int rule = target.ruleCount;
            boolean isRight = readHead(rule) && skip('=')
                    && readBody(rule) && skip(' ')
                    && readWeight(rule) && skip(' ')
                    && readCost(rule) && at == end;
            if (isRight) {
                target.ruleCount++;
            }
            return isRight;
        }

        private boolean readHead(int rule) {
            if (!isCapital(seen())) {
                return false;
            }
            target.heads[rule] = readSymbol();
            return target.heads[rule] != NONE;
        }

        private boolean readBody(int rule) {
            int length = 0;
            while (length < MOST_SYMBOLS && (isCapital(seen()) || isSmallLetter(seen()))) {
                int symbol = readSymbol();
                if (symbol == NONE) {
                    return false;
                }
                target.bodies[rule * MOST_SYMBOLS + length] = symbol;
                length++;
            }
            target.bodyLengths[rule] = length;
            return true;
        }

        private int readSymbol() {
            int code = seen();
            at++;
            return isCapital(code) ? target.nonterminalOf(code) : code;
        }

        private boolean readWeight(int rule) {
            int above = readNumber();
            int below = 1;
            if (above != NONE && skip('/')) {
                below = readNumber();
            }
            if (above == NONE || below == NONE || below % 2 == 0) {
                return false;
            }
            target.weights[rule] = above * inverse(below);
            return true;
        }

        private boolean readCost(int rule) {
            int cost = readNumber();
            target.costs[rule] = cost;
            return cost != NONE && cost <= MOST_COST;
        }

        /** A fourth figure is left standing: what must follow a number is none. */
        private int readNumber() {
            int number = 0;
            int figures = 0;
            while (figures < MOST_FIGURES && seen() >= '0' && seen() <= '9') {
                number = 10 * number + (seen() - '0');
                at++;
                figures++;
            }
            return figures == 0 ? NONE : number;
        }

        /** The x for which odd * x is 1. */
        private static long inverse(long odd) {
            // An odd number is its own inverse in its lowest 3 bits, and each round doubles how
            // many bits are right: 6, 12, 24, 48, 96.
            long x = odd;
            for (int round = 0; round < 5; round++) {
                x *= 2 - odd * x;
            }
            return x;
        }

        /** The character that is next in the line, NONE at its end. */
        private int seen() {
            return at < end ? source.characters[at] : NONE;
        }

        private boolean sees(char character) {
            return seen() == character;
        }

        private boolean skip(char character) {
            if (!sees(character)) {
                return false;
            }
            at++;
            return true;
        }
    }

    /**
     * For each nonterminal and part of the text a cell: the sum of the weights of all trees, and THE
     * TREE's cost, rule, number of nodes, and lengths of the parts of its symbols. Parts of no
     * letters are all alike, and share one cell, which needs no text.
     */
    private static final class Chart {
        private static final int PARTS = 1 + MOST_LETTERS * MOST_LETTERS;
        private static final int CELLS = PARTS * MOST_NONTERMINALS;
        private static final int PLACES = MOST_LETTERS + 1;
        private static final int BITS_OF_A_LENGTH = 4;
        private static final int LENGTH_MASK = 15;

        final long[] sums = new long[CELLS];

        /** NONE in a cell without a tree. */
        final int[] costs = new int[CELLS];

        final int[] rules = new int[CELLS];
        final int[] sizes = new int[CELLS];
        private final int[] lengths = new int[CELLS];

        private final char[] letters = new char[MOST_LETTERS];

        /** NONE if there is no text. */
        int textLength = NONE;

        /*
         * Of the rule and the part looked at: row k tells of its symbols from symbol k on, for the
         * rest of the part from each place on, the sum, the least cost (or NONE), and with how short
         * a part of symbol k that cost is reached.
         */
        private final long[][] restSums = new long[MOST_SYMBOLS + 1][PLACES];
        private final int[][] restCosts = new int[MOST_SYMBOLS + 1][PLACES];
        private final int[][] restLengths = new int[MOST_SYMBOLS][PLACES];

        static int cell(int s, int from, int to) {
            int part = from == to ? 0 : from * MOST_LETTERS + to;
            return part * MOST_NONTERMINALS + s;
        }

        boolean hasTree(int s, int from, int to) {
            return costs[cell(s, from, to)] != NONE;
        }

        long emptySum(int s) {
            return sums[cell(s, 0, 0)];
        }

        /** How long the part of a symbol of the rule in a cell is. */
        int lengthOf(int cell, int place) {
            return (lengths[cell] >> (BITS_OF_A_LENGTH * place)) & LENGTH_MASK;
        }

        void dropText() {
            textLength = NONE;
        }

        void takeText(Draft draft) {
            textLength = draft.length;
            for (int k = 0; k < textLength; k++) {
                letters[k] = draft.characters[k];
            }
        }

        /** Shorter parts first, as longer ones consist of them. */
        void fillText(Grammar grammar) {
            for (int length = 1; length <= textLength; length++) {
                for (int from = 0; from + length <= textLength; from++) {
                    fillPart(grammar, from, from + length);
                }
            }
        }

        void fillPart(Grammar grammar, int from, int to) {
            for (int s = 0; s < MOST_NONTERMINALS; s++) {
                sums[cell(s, from, to)] = 0;
                costs[cell(s, from, to)] = NONE;
            }
            for (int k = 0; k < grammar.nonterminalCount; k++) {
                for (int rule = 0; rule < grammar.ruleCount; rule++) {
                    if (grammar.heads[rule] == grammar.order[k]) {
                        addRule(grammar, rule, from, to);
                    }
                }
            }
        }

        private void addRule(Grammar grammar, int rule, int from, int to) {
            matchBody(grammar, rule, from, to);
            if (restCosts[0][from] == NONE) {
                return;
            }
            int cell = cell(grammar.heads[rule], from, to);
            sums[cell] += grammar.weights[rule] * restSums[0][from];
            int cost = grammar.costs[rule] + restCosts[0][from];
            if (costs[cell] == NONE || cost < costs[cell]) {
                costs[cell] = cost;
                rules[cell] = rule;
                keepBody(grammar, rule, cell, from);
            }
        }

        private void matchBody(Grammar grammar, int rule, int from, int to) {
            int bodyLength = grammar.bodyLengths[rule];
            for (int place = from; place <= to; place++) {
                restSums[bodyLength][place] = place == to ? 1 : 0;
                restCosts[bodyLength][place] = place == to ? 0 : NONE;
            }
            for (int k = bodyLength - 1; k >= 0; k--) {
                int symbol = grammar.symbol(rule, k);
                // The first symbol has no other place to begin at.
                int last = k == 0 ? from : to;
                for (int place = from; place <= last; place++) {
                    if (Grammar.isNonterminal(symbol)) {
                        matchNonterminal(symbol, k, place, to);
                    } else {
                        matchTerminal(symbol, k, place, to);
                    }
                }
            }
        }

        private void matchTerminal(int letter, int k, int place, int to) {
            boolean matches = place < to && letters[place] == letter;
            restSums[k][place] = matches ? restSums[k + 1][place + 1] : 0;
            restCosts[k][place] = matches ? restCosts[k + 1][place + 1] : NONE;
            restLengths[k][place] = 1;
        }

        private void matchNonterminal(int s, int k, int place, int to) {
            long sum = 0;
            int least = NONE;
            for (int next = place; next <= to; next++) {
                int cell = cell(s, place, next);
                if (costs[cell] != NONE && restCosts[k + 1][next] != NONE) {
                    sum += sums[cell] * restSums[k + 1][next];
                    int cost = costs[cell] + restCosts[k + 1][next];
                    if (least == NONE || cost < least) {
                        least = cost;
                        restLengths[k][place] = next - place;
                    }
                }
            }
            restSums[k][place] = sum;
            restCosts[k][place] = least;
        }

        private void keepBody(Grammar grammar, int rule, int cell, int from) {
            int place = from;
            int size = 1;
            int packed = 0;
            for (int k = 0; k < grammar.bodyLengths[rule]; k++) {
                int length = restLengths[k][place];
                int symbol = grammar.symbol(rule, k);
                if (Grammar.isNonterminal(symbol)) {
                    size += sizes[cell(symbol, place, place + length)];
                }
                packed |= length << (BITS_OF_A_LENGTH * k);
                place += length;
            }
            sizes[cell] = size;
            lengths[cell] = packed;
        }
    }

    /** The sums of the weights of all derivations from one nonterminal to another one alone. */
    private static final class UnitTable {
        private final long[] table = new long[MOST_NONTERMINALS * MOST_NONTERMINALS];

        long sum(int s, int t) {
            return table[s * MOST_NONTERMINALS + t];
        }

        /** The chart must know the empty part already. */
        void fill(Grammar grammar, Chart chart) {
            for (int k = 0; k < grammar.nonterminalCount; k++) {
                int s = grammar.order[k];
                for (int t = 0; t < MOST_NONTERMINALS; t++) {
                    table[s * MOST_NONTERMINALS + t] = s == t ? 1 : 0;
                }
                for (int rule = 0; rule < grammar.ruleCount; rule++) {
                    if (grammar.heads[rule] == s) {
                        addRule(grammar, chart, rule);
                    }
                }
            }
        }

        private void addRule(Grammar grammar, Chart chart, int rule) {
            int head = grammar.heads[rule];
            for (int place = 0; place < grammar.bodyLengths[rule]; place++) {
                int symbol = grammar.symbol(rule, place);
                if (Grammar.isNonterminal(symbol)) {
                    // This is 0 if the head does not lead to the symbol, whose row may be old then.
                    long step = grammar.weights[rule] * emptyProduct(grammar, chart, rule, place);
                    for (int t = 0; t < MOST_NONTERMINALS; t++) {
                        table[head * MOST_NONTERMINALS + t] += step * sum(symbol, t);
                    }
                }
            }
        }

        private static long emptyProduct(Grammar grammar, Chart chart, int rule, int aside) {
            long product = 1;
            for (int place = 0; place < grammar.bodyLengths[rule]; place++) {
                int symbol = grammar.symbol(rule, place);
                if (place != aside) {
                    product *= Grammar.isNonterminal(symbol) ? chart.emptySum(symbol) : 0;
                }
            }
            return product;
        }
    }

    /** The tree that was built latest, of which the first nodes are kept. */
    private static final class TreeListing {
        final int[] rules = new int[MOST_NODES_SHOWN];
        final int[] starts = new int[MOST_NODES_SHOWN];
        final int[] ends = new int[MOST_NODES_SHOWN];
        private final int[] symbols = new int[MOST_NODES_SHOWN];
        int nodeCount = 0;

        void clear() {
            nodeCount = 0;
        }

        int shownCount() {
            return Math.min(nodeCount, MOST_NODES_SHOWN);
        }

        void list(Grammar grammar, Chart chart, int s, int from, int to) {
            nodeCount = chart.sizes[Chart.cell(s, from, to)];
            keepPlace(0, s, from, to);
            int shown = shownCount();
            for (int k = 0; k < shown; k++) {
                expand(grammar, chart, k);
            }
        }

        private void keepPlace(int k, int s, int from, int to) {
            symbols[k] = s;
            starts[k] = from;
            ends[k] = to;
        }

        /** The sizes of the trees below a node tell where in the list each of them begins. */
        private void expand(Grammar grammar, Chart chart, int k) {
            int cell = Chart.cell(symbols[k], starts[k], ends[k]);
            int rule = chart.rules[cell];
            rules[k] = rule;
            int child = k + 1;
            int from = starts[k];
            for (int place = 0; place < grammar.bodyLengths[rule]; place++) {
                int symbol = grammar.symbol(rule, place);
                int to = from + chart.lengthOf(cell, place);
                if (Grammar.isNonterminal(symbol)) {
                    if (child < MOST_NODES_SHOWN) {
                        keepPlace(child, symbol, from, to);
                    }
                    child += chart.sizes[Chart.cell(symbol, from, to)];
                }
                from = to;
            }
        }
    }
}
