import java.util.Random;

/** Grammars and texts, always the same ones for the same seed. */
final class Samples {
    final Random random;

    Samples(long seed) {
        random = new Random(seed);
    }

    String grammar() {
        String capitals = "SABCDEFG".substring(0, 1 + random.nextInt(random.nextInt(10) == 0 ? 8 : 5));
        int rules = 1 + random.nextInt(random.nextInt(10) == 0 ? 14 : 9);
        // Where many bodies are empty, many grammars loop: both kinds are wanted.
        int letters = 1 + random.nextInt(4);
        StringBuilder text = new StringBuilder();
        for (int k = 0; k < rules; k++) {
            if (random.nextInt(12) == 0) {
                text.append(random.nextBoolean() ? "#x=\n" : "\n");
            }
            text.append(oneOf(capitals)).append('=');
            int length = random.nextInt(5);
            for (int n = 0; n < length; n++) {
                text.append(random.nextInt(5) < letters ? oneOf("ab") : oneOf(capitals));
            }
            text.append(' ').append(weight()).append(' ').append(random.nextInt(4)).append('\n');
        }
        return text.toString();
    }

    /** Six nonterminals, of which each leads to later ones and seldom to others: has large trees. */
    String layered() {
        StringBuilder text = new StringBuilder();
        int most = random.nextBoolean() ? 3 : 100;
        for (int k = 0; k < 11; k++) {
            // Some heads have one rule alone, as THE TREE would else be small most times.
            int head = k < 5 ? k : random.nextInt(6);
            int length = k < 5 ? 3 + random.nextInt(2) : random.nextInt(4);
            text.append("SABCDE".charAt(head)).append('=');
            for (int n = 0; n < length; n++) {
                boolean isLater = head < 5 && (k < 5 || random.nextInt(3) != 0);
                text.append(isLater ? oneOf("SABCDEE".substring(head + 1, head + 3)) : oneOf(n == 0 ? "ab" : "abSABCDE"));
            }
            text.append(' ').append(weight()).append(' ').append(random.nextInt(k < 5 ? 2 : most)).append('\n');
        }
        return text.append("E= 3 1").toString();
    }

    private String weight() {
        int above = random.nextInt(random.nextBoolean() ? 4 : 1000);
        int below = 1 + 2 * random.nextInt(500);
        return random.nextInt(3) == 0 ? above + "/" + below : String.valueOf(above);
    }

    /** The same with one character taken away, put in or changed. */
    String spoiled(String grammar) {
        StringBuilder text = new StringBuilder(grammar);
        int at = random.nextInt(text.length());
        switch (random.nextInt(3)) {
            case 0:
                text.deleteCharAt(at);
                break;
            case 1:
                text.insert(at, oneOf(" =/#\n0129aAzZ"));
                break;
            default:
                text.setCharAt(at, oneOf(" =/#\n0129aAzZ"));
                break;
        }
        return text.toString();
    }

    String text() {
        return text(random.nextInt(random.nextInt(4) == 0 ? 9 : 5));
    }

    String text(int length) {
        StringBuilder text = new StringBuilder();
        for (int k = 0; k < length; k++) {
            text.append(oneOf("ab"));
        }
        return text.toString();
    }

    private char oneOf(String characters) {
        return characters.charAt(random.nextInt(characters.length()));
    }
}
