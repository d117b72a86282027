import java.math.BigInteger;
import java.util.ArrayList;
import java.util.Comparator;
import java.util.List;
import java.util.regex.Matcher;
import java.util.regex.Pattern;

/** Answers by the words of the document: makes all trees of a grammar, and looks among them. */
final class Oracle {
    /** A symbol is the character that it is. */
    record Rule(char head, String body, long weight, int cost) {
    }

    /** A tree with the lengths of the parts of all symbols of its body, and the trees of its nonterminals. */
    record Tree(int rule, int from, int to, long weight, int cost, List<Integer> lengths, List<Tree> below) {
        String nodes() {
            StringBuilder nodes = new StringBuilder();
            nodes.append(' ').append(rule).append(':').append(from).append('-').append(to);
            for (Tree tree : below) {
                nodes.append(tree.nodes());
            }
            return nodes.toString();
        }

        int size() {
            int size = 1;
            for (Tree tree : below) {
                size += tree.size();
            }
            return size;
        }
    }

    private static final Pattern LINE = Pattern.compile(
            "([A-Z])=([A-Za-z]{0,4}) ([0-9]{1,3})(?:/([0-9]{0,2}[13579]))? ([0-9]{1,2}|0[0-9]{2})");
    private static final BigInteger ALL = BigInteger.ONE.shiftLeft(64);

    /** Two trees of one nonterminal and part: THE TREE is the least. */
    private static final Comparator<Tree> ORDER = Oracle::compare;

    final List<Rule> rules = new ArrayList<>();
    String nonterminals = "";
    int wrongLine = 0;

    Oracle(String draft) {
        String[] lines = draft.split("\n", -1);
        for (int k = 0; k < lines.length && wrongLine == 0; k++) {
            if (!lines[k].isEmpty() && lines[k].charAt(0) != '#' && !takeLine(lines[k])) {
                wrongLine = k + 1;
            }
        }
        if (wrongLine == 0 && rules.isEmpty()) {
            wrongLine = lines.length + 1;
        }
    }

    /** The same grammar with one rule more, which needs not be one that a draft can have. */
    private Oracle(Oracle other, Rule more) {
        rules.addAll(other.rules);
        rules.add(more);
        nonterminals = other.nonterminals;
    }

    private boolean takeLine(String line) {
        Matcher parts = LINE.matcher(line);
        if (!parts.matches()) {
            return false;
        }
        String below = parts.group(4) == null ? "1" : parts.group(4);
        long weight = new BigInteger(below).modInverse(ALL).multiply(new BigInteger(parts.group(3))).longValue();
        rules.add(new Rule(parts.group(1).charAt(0), parts.group(2), weight, Integer.parseInt(parts.group(5))));
        for (char symbol : (parts.group(1) + parts.group(2)).toCharArray()) {
            if (Character.isUpperCase(symbol) && nonterminals.indexOf(symbol) < 0) {
                nonterminals += symbol;
            }
        }
        return rules.size() <= 12 && nonterminals.length() <= 6;
    }

    boolean loops() {
        for (char s : nonterminals.toCharArray()) {
            if (leads(s, s, 6)) {
                return true;
            }
        }
        return false;
    }

    private boolean leads(char s, char t, int steps) {
        for (Rule rule : rules) {
            for (int k = 0; steps > 0 && rule.head() == s && k < rule.body().length(); k++) {
                char symbol = rule.body().charAt(k);
                String others = rule.body().substring(0, k) + rule.body().substring(k + 1);
                if (Character.isUpperCase(symbol) && vanishes(others, 6)
                        && (symbol == t || leads(symbol, t, steps - 1))) {
                    return true;
                }
            }
        }
        return false;
    }

    private boolean vanishes(String symbols, int depth) {
        for (char symbol : symbols.toCharArray()) {
            boolean found = false;
            for (Rule rule : rules) {
                found |= depth > 0 && rule.head() == symbol && vanishes(rule.body(), depth - 1);
            }
            if (!found) {
                return false;
            }
        }
        return true;
    }

    /** All trees for all parts of a text: [nonterminal][from][to]. */
    final class Forest {
        private final String text;
        private final int most;
        private List<Tree>[][][] trees;
        private int count = 0;

        private Forest(String text, int most) {
            this.text = text;
            this.most = most;
            trees = none();
        }

        @SuppressWarnings({"unchecked", "rawtypes"})
        private List<Tree>[][][] none() {
            int places = text.length() + 1;
            List<Tree>[][][] none = new List[nonterminals.length()][places][places];
            for (List<Tree>[][] ofOne : none) {
                for (List<Tree>[] fromOne : ofOne) {
                    for (int to = 0; to < places; to++) {
                        fromOne[to] = new ArrayList<>();
                    }
                }
            }
            return none;
        }

        /** Trees one deeper, from those that are known. */
        private void grow() {
            List<Tree>[][][] grown = none();
            count = 0;
            for (int rule = 0; rule < rules.size(); rule++) {
                int head = nonterminals.indexOf(rules.get(rule).head());
                for (int from = 0; from <= text.length(); from++) {
                    addAll(grown[head], rule, from, from, new ArrayList<>(), new ArrayList<>());
                }
            }
            trees = grown;
        }

        private void addAll(
                List<Tree>[][] ofHead, int rule, int from, int at, List<Integer> lengths, List<Tree> below) {
            Rule r = rules.get(rule);
            if (count > most) {
                return;
            }
            if (lengths.size() == r.body().length()) {
                long weight = r.weight();
                int cost = r.cost();
                for (Tree tree : below) {
                    weight *= tree.weight();
                    cost += tree.cost();
                }
                ofHead[from][at].add(new Tree(rule, from, at, weight, cost, List.copyOf(lengths), List.copyOf(below)));
                count++;
                return;
            }
            char symbol = r.body().charAt(lengths.size());
            if (Character.isUpperCase(symbol)) {
                for (int to = at; to <= text.length(); to++) {
                    for (Tree tree : trees[nonterminals.indexOf(symbol)][at][to]) {
                        addAll(ofHead, rule, from, to, plus(lengths, to - at), plus(below, tree));
                    }
                }
            } else if (at < text.length() && text.charAt(at) == symbol) {
                addAll(ofHead, rule, from, at + 1, plus(lengths, 1), below);
            }
        }

        long inside(int s, int i, int j) {
            long sum = 0;
            for (Tree tree : trees[s][i][j]) {
                sum += tree.weight();
            }
            return sum;
        }

        int cheapest(int s, int i, int j) {
            Tree tree = theTree(s, i, j);
            return tree == null ? -1 : tree.cost();
        }

        Tree theTree(int s, int i, int j) {
            return trees[s][i][j].stream().min(ORDER).orElse(null);
        }
    }

    /** Null if there are more trees than that. */
    Forest forest(String text, int most) {
        Forest forest = new Forest(text, most);
        int before = -1;
        while (forest.count != before && forest.count <= most) {
            before = forest.count;
            forest.grow();
        }
        return forest.count > most ? null : forest;
    }

    /** The trees in which one t is a leaf are those of this grammar for *, a letter that only t becomes. */
    Oracle withLeaf(int t) {
        return new Oracle(this, new Rule(nonterminals.charAt(t), "*", 1, 0));
    }

    /** Null if the trees are too many. */
    Long unit(int s, int t, int most) {
        Forest forest = withLeaf(t).forest("*", most);
        return forest == null ? null : Long.valueOf(forest.inside(s, 0, 1));
    }

    boolean unitsAreFew(int most) {
        for (int t = 0; t < nonterminals.length(); t++) {
            if (unit(0, t, most) == null) {
                return false;
            }
        }
        return true;
    }

    private static int compare(Tree a, Tree b) {
        int order = Integer.compare(a.cost(), b.cost());
        if (order == 0) {
            order = Integer.compare(a.rule(), b.rule());
        }
        for (int k = 0; order == 0 && k < a.lengths().size(); k++) {
            order = Integer.compare(a.lengths().get(k), b.lengths().get(k));
        }
        for (int k = 0; order == 0 && k < a.below().size(); k++) {
            order = compare(a.below().get(k), b.below().get(k));
        }
        return order;
    }

    private static <T> List<T> plus(List<T> list, T more) {
        List<T> longer = new ArrayList<>(list);
        longer.add(more);
        return longer;
    }
}
