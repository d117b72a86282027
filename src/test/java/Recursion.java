import java.util.ArrayList;
import java.util.Comparator;
import java.util.HashMap;
import java.util.List;
import java.util.Map;

/** Answers for more trees than the oracle can make: tries all ways to cut a part among a rule's symbols. */
final class Recursion {
    /** A rule laid over a part, each of whose symbols has a tree for its part. */
    record Way(int rule, List<Integer> lengths, int cost) {
    }

    /** A nonterminal and a part of the text. */
    private record Cell(char s, int from, int to) {
    }

    private static final Comparator<Way> ORDER =
            Comparator.comparingInt(Way::cost).thenComparingInt(Way::rule).thenComparing(Recursion::compareLengths);

    private final List<Oracle.Rule> rules;
    private final String text;
    private final Map<Cell, Boolean> derived = new HashMap<>();
    private final Map<Cell, Long> sums = new HashMap<>();
    private final Map<Cell, Way> best = new HashMap<>();

    /** The grammar must not loop: then no cell asks for itself. */
    Recursion(Oracle grammar, String text) {
        this.rules = grammar.rules;
        this.text = text;
        boolean grows = true;
        while (grows) {
            grows = false;
            for (Oracle.Rule rule : rules) {
                for (Cell cell : cells(rule.head())) {
                    if (!derived.containsKey(cell) && !cuts(rule, cell.from(), cell.to()).isEmpty()) {
                        derived.put(cell, true);
                        grows = true;
                    }
                }
            }
        }
    }

    private List<Cell> cells(char s) {
        List<Cell> cells = new ArrayList<>();
        for (int from = 0; from <= text.length(); from++) {
            for (int to = from; to <= text.length(); to++) {
                cells.add(new Cell(s, from, to));
            }
        }
        return cells;
    }

    boolean hasTree(char s, int from, int to) {
        return derived.containsKey(new Cell(s, from, to));
    }

    /** The lengths of the parts of the symbols, for each way in which all of them have trees. */
    private List<List<Integer>> cuts(Oracle.Rule rule, int from, int to) {
        List<List<Integer>> cuts = new ArrayList<>();
        addCuts(rule.body(), from, to, List.of(), cuts);
        return cuts;
    }

    private void addCuts(String symbols, int from, int to, List<Integer> before, List<List<Integer>> cuts) {
        if (symbols.isEmpty()) {
            if (from == to) {
                cuts.add(before);
            }
            return;
        }
        for (int next = from; next <= to; next++) {
            if (derives(symbols.charAt(0), from, next)) {
                List<Integer> lengths = new ArrayList<>(before);
                lengths.add(next - from);
                addCuts(symbols.substring(1), next, to, lengths, cuts);
            }
        }
    }

    private boolean derives(char symbol, int from, int to) {
        return isNonterminal(symbol) ? hasTree(symbol, from, to) : text.substring(from, to).equals("" + symbol);
    }

    private static boolean isNonterminal(char symbol) {
        return Character.isUpperCase(symbol);
    }

    long inside(char s, int from, int to) {
        Cell cell = new Cell(s, from, to);
        if (!sums.containsKey(cell)) {
            long sum = 0;
            for (Oracle.Rule rule : rules) {
                for (List<Integer> lengths : rule.head() == s ? cuts(rule, from, to) : List.<List<Integer>>of()) {
                    long product = rule.weight();
                    int at = from;
                    for (int k = 0; k < lengths.size(); k++) {
                        char symbol = rule.body().charAt(k);
                        product *= isNonterminal(symbol) ? inside(symbol, at, at + lengths.get(k)) : 1;
                        at += lengths.get(k);
                    }
                    sum += product;
                }
            }
            sums.put(cell, sum);
        }
        return sums.get(cell);
    }

    int cheapest(char s, int from, int to) {
        return hasTree(s, from, to) ? best(s, from, to).cost() : WeightedTrees.NONE;
    }

    private Way best(char s, int from, int to) {
        Cell cell = new Cell(s, from, to);
        if (!best.containsKey(cell)) {
            List<Way> ways = new ArrayList<>();
            for (int k = 0; k < rules.size(); k++) {
                if (rules.get(k).head() == s) {
                    for (List<Integer> lengths : cuts(rules.get(k), from, to)) {
                        ways.add(new Way(k, lengths, cost(rules.get(k), lengths, from)));
                    }
                }
            }
            best.put(cell, ways.stream().min(ORDER).orElseThrow());
        }
        return best.get(cell);
    }

    private int cost(Oracle.Rule rule, List<Integer> lengths, int from) {
        int cost = rule.cost();
        int at = from;
        for (int k = 0; k < lengths.size(); k++) {
            char symbol = rule.body().charAt(k);
            cost += isNonterminal(symbol) ? best(symbol, at, at + lengths.get(k)).cost() : 0;
            at += lengths.get(k);
        }
        return cost;
    }

    private static int compareLengths(Way a, Way b) {
        for (int k = 0; k < a.lengths().size(); k++) {
            int order = Integer.compare(a.lengths().get(k), b.lengths().get(k));
            if (order != 0) {
                return order;
            }
        }
        return 0;
    }

    /** The nodes of THE TREE, each as Check.node() writes it. */
    List<String> nodes(char s, int from, int to) {
        List<String> nodes = new ArrayList<>();
        addNodes(s, from, to, nodes);
        return nodes;
    }

    private void addNodes(char s, int from, int to, List<String> nodes) {
        Way way = best(s, from, to);
        nodes.add(way.rule() + ":" + from + "-" + to);
        int at = from;
        for (int k = 0; k < way.lengths().size(); k++) {
            char symbol = rules.get(way.rule()).body().charAt(k);
            if (isNonterminal(symbol)) {
                addNodes(symbol, at, at + way.lengths().get(k), nodes);
            }
            at += way.lengths().get(k);
        }
    }
}
