import java.util.Random;

/** Long runs of all calls on one object each, with what the model says. */
public final class RunsTest {
    private static final int RUNS = 150;
    private static final int MOST_CALLS = 512;

    private static final Check check = new Check();
    private static final Samples samples = new Samples(512);
    private static final Random random = samples.random;

    private static WeightedTrees x;
    private static Model model;
    private static int calls;

    public static void main(String[] args) {
        for (int run = 0; run < RUNS; run++) {
            x = new WeightedTrees();
            model = new Model();
            calls = 0;
            while (calls < MOST_CALLS) {
                step("run " + run);
            }
        }
        check.end();
    }

    private static void step(String run) {
        switch (random.nextInt(40)) {
            case 0:
                write(run, random.nextInt(4) == 0 ? samples.spoiled(samples.grammar()) : samples.grammar());
                loadIfKnown(run);
                break;
            case 1:
            case 2:
                write(run, random.nextInt(6) == 0 ? samples.text() + "A" : samples.text());
                parseIfKnown(run);
                break;
            case 3:
                if (random.nextInt(4) == 0) {
                    scrap();
                }
                break;
            case 4:
                if (random.nextInt(4) == 0) {
                    put(run, random.nextInt(11) - 1, random.nextLong());
                }
                break;
            default:
                ask(run);
                break;
        }
    }

    private static void call(String what, Check.Call due, Check.Call call) {
        if (calls < MOST_CALLS) {
            calls++;
            Object answer;
            try {
                answer = due.answer();
            } catch (RuntimeException e) {
                answer = e.getClass();
            }
            check.due(what, answer, call);
        }
    }

    private static void put(String run, int n, long codes) {
        call(run + ": put(" + n + ", " + codes + ")", () -> model.put(n, codes), () -> x.put(n, codes));
    }

    private static void write(String run, String text) {
        for (int k = 0; k < text.length(); k += 8) {
            String piece = text.substring(k, Math.min(k + 8, text.length()));
            put(run, piece.length(), Check.codes(piece));
        }
    }

    private static void scrap() {
        calls++;
        model.scrap();
        x.scrap();
    }

    private static void loadIfKnown(String run) {
        if (model.knows(false)) {
            call(run + ": load()", model::load, x::load);
        } else {
            scrap();
        }
    }

    private static void parseIfKnown(String run) {
        if (model.knows(true)) {
            call(run + ": parse()", model::parse, x::parse);
        } else {
            scrap();
        }
    }

    private static void ask(String run) {
        int s = random.nextInt(8) - 1;
        int i = random.nextInt(6) == 0 ? random.nextInt(11) - 1 : random.nextInt(3);
        int j = random.nextInt(6) == 0 ? random.nextInt(11) - 1 : i + random.nextInt(4);
        if (random.nextInt(3) != 0) {
            s = random.nextInt(Math.max(1, model.count(1)));
        }
        ask(run, s, i, j);
    }

    private static void ask(String run, int s, int i, int j) {
        String part = "(" + s + ", " + i + ", " + j + ")";
        switch (random.nextInt(11)) {
            case 0:
                call(run + ": wrong()", model::wrong, x::wrong);
                break;
            case 1:
                call(run + ": count(" + s + ")", () -> model.count(s), () -> x.count(s));
                break;
            case 2:
                call(run + ": name(" + s + ")", () -> model.name(s), () -> x.name(s));
                break;
            case 3:
                call(run + ": weight(" + i + ")", () -> model.weight(i), () -> x.weight(i));
                break;
            case 4:
                call(run + ": empty(" + s + ")", () -> model.empty(s), () -> x.empty(s));
                break;
            case 5:
                call(run + ": unit(" + s + ", " + i + ")", () -> model.unit(s, i), () -> x.unit(s, i));
                break;
            case 6:
                call(run + ": inside" + part, () -> model.inside(s, i, j), () -> x.inside(s, i, j));
                break;
            case 7:
                call(run + ": cheapest" + part, () -> model.cheapest(s, i, j), () -> x.cheapest(s, i, j));
                break;
            case 8:
                call(run + ": build" + part, () -> model.build(s, i, j), () -> x.build(s, i, j));
                break;
            default:
                call(run + ": node(" + i + ", " + s + ")", () -> model.node(i, s), () -> x.node(i, s));
                break;
        }
    }
}
