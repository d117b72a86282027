/** Promises 10 (empty) and 11 (unit). */
public final class EmptyUnitTest {
    private static final Check check = new Check();

    public static void main(String[] args) {
        empties();
        emptiesNeedNoText();
        units();
        unitsOfSeveralAlike();
        unitsOfDeepTrees();
        whatIsNoNonterminal();
        check.end();
    }

    private static void allDue(String what, WeightedTrees x, long... due) {
        for (int s = 0; s < due.length; s++) {
            int n = s;
            check.due(what + " empty(" + n + ")", due[n], () -> x.empty(n));
        }
    }

    private static void unitsDue(WeightedTrees x, long[][] due) {
        for (int s = 0; s < due.length; s++) {
            for (int t = 0; t < due.length; t++) {
                int from = s;
                int to = t;
                check.due("unit(" + s + ", " + t + ")", due[s][t], () -> x.unit(from, to));
            }
        }
    }

    private static void empties() {
        allDue("one rule", Check.loaded("S= 7 1"), 7);
        allDue("two rules", Check.loaded("S= 7 1\nS= 5 1\nS=a 3 1"), 12);
        allDue("none", Check.loaded("S=a 3 1\nS=aA 1 1\nA=B 1 1"), 0, 0, 0);
        allDue("powers", Check.loaded("S=AAAA 2 1\nA=BB 3 1\nB= 5 1\nA=B 7 1"), 2L * 110 * 110 * 110 * 110, 110, 5);
        allDue("heads behind their bodies", Check.loaded("A= 3 1\nB=AA 2 1\nC=AB 5 1\nC=aB 9 1"), 3, 18, 270);
        allDue("a weight of 0", Check.loaded("S=A 1 1\nA= 0 1"), 0, 0);
        allDue("a sum that wraps", Check.loaded("S=AAAA 1 1\nA=BB 1 1\nB= 512 1"), 0, 1 << 18, 512);
        WeightedTrees x = Check.loaded("S=AA 1 1\nA= 1/3 1");
        check.due("a ninth", 1L, () -> 9 * x.empty(0));
    }

    private static void emptiesNeedNoText() {
        WeightedTrees x = Check.loaded("S=Aa 2 1\nA= 3 1\nS=AA 5 1");
        allDue("before a text", x, 45, 3);
        Check.parse(x, "aaaa");
        allDue("with a text", x, 45, 3);
        check.due("inside of no letters", 45, () -> x.inside(0, 4, 4));
        Check.load(x, "S=a 1 1");
        allDue("with another grammar", x, 0);
    }

    private static void units() {
        unitsDue(Check.loaded("S=AB 2 1\nA=B 3 1\nB= 5 1\nA= 7 1"), new long[][] {
            // S to A: 2 * empty(B); to B: 2 * empty(A), and 2 * unit(A, B) * empty(B); empty(A) is 22.
            {1, 10, 44 + 30},
            {0, 1, 3},
            {0, 0, 1},
        });
        unitsDue(Check.loaded("S=aA 2 1\nS=AC 2 1\nA=b 1 1\nC=c 1 1"), new long[][] {
            {1, 0, 0},
            {0, 1, 0},
            {0, 0, 1},
        });
        unitsDue(Check.loaded("S=A 2 1\nS=A 3 1\nA=C 5 1\nS=C 7 1"), new long[][] {
            {1, 5, 32},
            {0, 1, 5},
            {0, 0, 1},
        });
        unitsDue(Check.loaded("A=b 1 1\nS=aA 2 1\nS=Ab 2 1"), new long[][] {{1, 0}, {0, 1}});
        unitsDue(Check.loaded("S=SS 1 1\nS=a 1 1"), new long[][] {{1}});
        unitsDue(Check.loaded("C=D 2 1\nB=C 3 1\nA=B 1/3 1"), new long[][] {
            {1, 2, 0, 0},
            {0, 1, 0, 0},
            {3, 6, 1, 0},
            {1, 2, Check.loaded("S= 1/3 1").weight(0), 1},
        });
    }

    private static void unitsOfSeveralAlike() {
        unitsDue(Check.loaded("S=AA 2 1\nA= 3 1"), new long[][] {{1, 12}, {0, 1}});
        unitsDue(Check.loaded("S=AAAA 2 1\nA= 3 1"), new long[][] {{1, 216}, {0, 1}});
        unitsDue(Check.loaded("S=AAa 2 1\nA= 3 1"), new long[][] {{1, 0}, {0, 1}});
        // S to A: the first A or the last one, 2 * 3 * 3 each, or by X, which is 18 too.
        unitsDue(Check.loaded("S=AXA 2 1\nX=A 1 1\nA= 3 1"), new long[][] {
            {1, 54, 18},
            {0, 1, 0},
            {0, 1, 1},
        });
    }

    private static void unitsOfDeepTrees() {
        WeightedTrees x = Check.loaded("F=EE 1 1\nE=DD 1 1\nD=CC 1 1\nC=BB 1 1\nB=AA 1 1\nA= 1 1");
        for (int s = 0; s < 6; s++) {
            for (int t = 0; t < 6; t++) {
                int from = s;
                int to = t;
                check.due("unit(" + s + ", " + t + ") of pairs", t < s ? 0 : 1 << (t - s), () -> x.unit(from, to));
            }
        }
    }

    private static void whatIsNoNonterminal() {
        WeightedTrees x = Check.parsed("S=A 1 1\nA= 1 1", "a");
        for (int s : new int[] {-1, 2, 3, 6, 65, Integer.MIN_VALUE, Integer.MAX_VALUE}) {
            check.due("empty(" + s + ")", Check.INDEX, () -> x.empty(s));
            check.due("unit(" + s + ", 0)", Check.INDEX, () -> x.unit(s, 0));
            check.due("unit(0, " + s + ")", Check.INDEX, () -> x.unit(0, s));
            check.due("unit(" + s + ", " + s + ")", Check.INDEX, () -> x.unit(s, s));
        }
    }
}
