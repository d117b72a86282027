/** Promises 12 (inside) and 13 (cheapest). */
public final class InsideCheapestTest {
    private static final Check check = new Check();

    public static void main(String[] args) {
        sumsOverAllTrees();
        sumsOverAllSplits();
        sumsWrap();
        partsOfNoLetters();
        leastCosts();
        costsOfZero();
        largeCosts();
        noTree();
        everyPlaceOfALetter();
        wrongNonterminalsAndParts();
        withoutAText();
        check.end();
    }

    private static void due(WeightedTrees x, int s, int i, int j, long inside, int cheapest) {
        String part = "(" + s + ", " + i + ", " + j + ")";
        check.due("inside" + part, inside, () -> x.inside(s, i, j));
        check.due("cheapest" + part, cheapest, () -> x.cheapest(s, i, j));
    }

    private static void sumsOverAllTrees() {
        WeightedTrees x = Check.parsed("S=SS 1 1\nS=a 1 1", "aaaaaaaa");
        int[] catalan = {1, 1, 2, 5, 14, 42, 132, 429};
        for (int i = 0; i < 8; i++) {
            for (int j = i + 1; j <= 8; j++) {
                due(x, 0, i, j, catalan[j - i - 1], 2 * (j - i) - 1);
            }
        }
        due(Check.parsed("S=A 2 5\nS=a 3 6\nA=a 7 1\nA=a 11 0", "a"), 0, 0, 1, 2 * 18 + 3, 5);
    }

    private static void sumsOverAllSplits() {
        // A has one tree for any part, so that these are the ways to cut four letters.
        String any = "\nA= 1 1\nA=aA 1 1";
        for (int n = 2; n <= 4; n++) {
            long due = n == 2 ? 5 : n == 3 ? 15 : 35;
            WeightedTrees x = Check.parsed("S=a" + "A".repeat(n - 1) + " 1 1" + any, "aaaa");
            due(x, 0, 0, 4, n == 2 ? 1 : n == 3 ? 4 : 10, n + 3);
            WeightedTrees y = Check.parsed("S=" + "A".repeat(n) + " 1 1" + any, "aaaa");
            due(y, 0, 0, 4, due, n + 5);
        }
        WeightedTrees z = Check.parsed("S=AbAb 2 3" + any, "aababb");
        due(z, 0, 0, 5, 2, 3 + 3 + 2);
        due(z, 0, 1, 5, 2, 3 + 2 + 2);
        due(z, 0, 0, 6, 0, -1);
        due(z, 0, 4, 6, 2, 5);
        due(z, 0, 2, 5, 2, 6);
    }

    private static void sumsWrap() {
        long due = 429;
        for (int k = 0; k < 15; k++) {
            due *= 999;
        }
        due(Check.parsed("S=SS 999 99\nS=a 999 99", "aaaaaaaa"), 0, 0, 8, due, 15 * 99);
        due(Check.parsed("S=AS 1 1\nS=A 1 1\nA=a 512 1", "aaaaaaaa"), 0, 0, 8, 0, 16);
        due(Check.parsed("S=AS 1 1\nS=A 1 1\nA=a 512 1", "aaaaaaa"), 0, 0, 7, 1L << 63, 14);
        WeightedTrees x = Check.parsed("S=ab 1/3 1\nS=AB 2/3 4\nA=a 1 1\nB=b 1 1", "ab");
        due(x, 0, 0, 2, 1, 1);
    }

    private static void partsOfNoLetters() {
        WeightedTrees x = Check.parsed("S=AA 2 5\nA= 3 7\nA=a 1 1\nB=b 1 1", "ab");
        for (int i = 0; i <= 2; i++) {
            due(x, 0, i, i, 18, 19);
            due(x, 1, i, i, 3, 7);
            due(x, 2, i, i, 0, -1);
        }
        WeightedTrees y = Check.parsed("S= 9 4", "");
        due(y, 0, 0, 0, 9, 4);
        check.due("inside(0, 0, 1) of the empty text", Check.ARGUMENT, () -> y.inside(0, 0, 1));
        WeightedTrees z = Check.parsed("S=B 1 1\nB=aB 1 1", "aa");
        due(z, 0, 1, 1, 0, -1);
    }

    private static void leastCosts() {
        WeightedTrees x = Check.parsed("S=aa 1 50\nS=AA 1 10\nS=aA 1 30\nA=a 1 9\nA=a 1 12", "aa");
        due(x, 0, 0, 2, 1 + 4 + 2, 28);
        due(x, 1, 0, 1, 2, 9);
        WeightedTrees y = Check.parsed("S=AB 1 0\nA=a 1 9\nA=aa 1 2\nA=aaa 1 5\nB=a 1 1\nB=aa 1 9\nB=aaa 1 1", "aaaa");
        due(y, 0, 0, 4, 3, 6);
        due(y, 0, 0, 3, 2, 3);
        due(y, 0, 1, 3, 1, 10);
        due(Check.parsed("S=SA 1 3\nS= 1 9\nS=a 1 1\nA=a 1 2\nA=b 1 1", "ab"), 0, 0, 2, 1 + 1, 5);
    }

    private static void costsOfZero() {
        WeightedTrees x = Check.parsed("S=AA 1 0\nA= 1 0\nA=a 1 0", "a");
        due(x, 0, 0, 0, 1, 0);
        due(x, 0, 0, 1, 2, 0);
        due(x, 1, 0, 1, 1, 0);
    }

    private static void largeCosts() {
        WeightedTrees x = Check.parsed(
                "S=AAAA 1 99\nA=BBBB 1 99\nB=CCCC 1 99\nC=DDDD 1 99\nD=EEEE 1 99\nE= 1 99\nE=a 1 99", "aaaaaaaa");
        due(x, 0, 0, 0, 1, 1365 * 99);
        check.due("cheapest(0, 0, 8)", 1365 * 99, () -> x.cheapest(0, 0, 8));
        // Which eight of the 1024 leaves have a letter.
        check.due("inside(0, 0, 2)", 1024L * 1023 / 2, () -> x.inside(0, 0, 2));
    }

    private static void noTree() {
        WeightedTrees x = Check.parsed("S=ab 1 1\nT=X 1 1", "ba");
        for (int s = 0; s < 3; s++) {
            for (int i = 0; i <= 2; i++) {
                for (int j = i; j <= 2; j++) {
                    due(x, s, i, j, 0, -1);
                }
            }
        }
        due(Check.parsed("S=a 0 6", "a"), 0, 0, 1, 0, 6);
        due(Check.parsed("S=aA 5 6\nA= 0 3", "a"), 0, 0, 1, 0, 9);
    }

    private static void everyPlaceOfALetter() {
        WeightedTrees x = Check.parsed(
                "S=a 1 1\nS=b 2 2\nS=c 3 3\nS=d 4 4\nS=e 5 5\nS=f 6 6\nS=g 7 7\nS=z 8 8", "abcdefgz");
        for (int i = 0; i < 8; i++) {
            due(x, 0, i, i + 1, i + 1, i + 1);
        }
    }

    private static void wrongNonterminalsAndParts() {
        WeightedTrees x = Check.parsed("S=A 1 1\nA=a 1 1", "aaa");
        int min = Integer.MIN_VALUE;
        int max = Integer.MAX_VALUE;
        int[][] parts = {
            {-1, 0}, {-1, -1}, {0, -1}, {1, 0}, {3, 2}, {0, 4}, {3, 4}, {4, 4}, {2, 1}, {4, 3}, {9, 9}, {0, 8},
            {min, max}, {max, min}, {min, min}, {max, max}, {0, max}, {min, 0}, {0, min}, {max, 0}, {min, 3},
        };
        for (int[] part : parts) {
            int i = part[0];
            int j = part[1];
            check.due("inside(0, " + i + ", " + j + ")", Check.ARGUMENT, () -> x.inside(0, i, j));
            check.due("cheapest(1, " + i + ", " + j + ")", Check.ARGUMENT, () -> x.cheapest(1, i, j));
            check.due("inside(2, " + i + ", " + j + ")", Check.INDEX, () -> x.inside(2, i, j));
            check.due("cheapest(-1, " + i + ", " + j + ")", Check.INDEX, () -> x.cheapest(-1, i, j));
        }
        for (int s : new int[] {-1, 2, 5, 6, min, max}) {
            check.due("inside(" + s + ", 0, 1)", Check.INDEX, () -> x.inside(s, 0, 1));
            check.due("cheapest(" + s + ", 0, 1)", Check.INDEX, () -> x.cheapest(s, 0, 1));
        }
    }

    private static void withoutAText() {
        WeightedTrees x = Check.loaded("S= 1 1");
        check.due("inside(0, 0, 0)", Check.ARGUMENT, () -> x.inside(0, 0, 0));
        check.due("cheapest(0, 0, 0)", Check.ARGUMENT, () -> x.cheapest(0, 0, 0));
        check.due("inside(0, -1, -1)", Check.ARGUMENT, () -> x.inside(0, -1, -1));
        check.due("inside(1, 0, 0)", Check.INDEX, () -> x.inside(1, 0, 0));
        check.due("cheapest(1, 0, 0)", Check.INDEX, () -> x.cheapest(1, 0, 0));
    }
}
