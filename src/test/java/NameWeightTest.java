/** Promises 8 (name) and 9 (weight). */
public final class NameWeightTest {
    private static final Check check = new Check();

    public static void main(String[] args) {
        names();
        weights();
        everyOddNumber();
        check.end();
    }

    private static void names() {
        WeightedTrees x = Check.loaded("# Q\nS=aZbA 1 1\n\nB=SB 1 1\nA=M 1 1\nA=ZSBY 1 1");
        String capitals = "SZABMY";
        for (int s = 0; s < 6; s++) {
            int n = s;
            check.due("name(" + n + ")", (int) capitals.charAt(n), () -> x.name(n));
        }
        for (int s : new int[] {-1, 6, 7, 83, Integer.MIN_VALUE, Integer.MAX_VALUE}) {
            check.due("name(" + s + ")", Check.INDEX, () -> x.name(s));
        }
        WeightedTrees y = Check.loaded("B=A 1 1\nA=a 1 1");
        check.due("the first one", 66, () -> y.name(0));
        check.due("the second one", 65, () -> y.name(1));
        check.due("name(2)", Check.INDEX, () -> y.name(2));
    }

    private static void weights() {
        WeightedTrees x = Check.loaded(
                "S=a 0 1\nS=a 999 1\nS=a 010 1\n#\nS=a 1/3 1\nS=a 2/5 1\n"
                + "S=a 9/3 1\nS=a 8/001 1\nS=a 0/7 1\nS=a 10/999 1");
        long[] due = {0, 999, 10, -6148914691236517205L, 2 * -3689348814741910323L, 3, 8, 0};
        for (int rule = 0; rule < due.length; rule++) {
            int r = rule;
            check.due("weight(" + r + ")", due[r], () -> x.weight(r));
        }
        check.due("999 * weight(8)", 10L, () -> 999 * x.weight(8));
        for (int rule : new int[] {-1, 9, 12, Integer.MIN_VALUE, Integer.MAX_VALUE}) {
            check.due("weight(" + rule + ")", Check.INDEX, () -> x.weight(rule));
        }
    }

    private static void everyOddNumber() {
        for (int b = 1; b <= 999; b += 2) {
            int below = b;
            int above = 998 - b / 2;
            WeightedTrees x = Check.loaded("S=a " + above + "/" + below + " 1");
            check.due(below + " times " + above + "/" + below, (long) above, () -> below * x.weight(0));
        }
    }
}
