import java.util.Random;

/** Texts made by a fixed seed: most are programs or nearly so. */
final class RandomTexts {
    private static final String SIGNS = "abfgABDEIO!?:.,,#(){}[]^@&&<=+--*/%0123456789";

    final Random random;

    RandomTexts(long seed) {
        random = new Random(seed);
    }

    /** A text of at most 72 characters. */
    String next() {
        String text = changed(random.nextInt(3) == 0 ? alternative(1) : process(1));
        return text.substring(0, Math.min(72, text.length()));
    }

    private String pick(String... all) {
        return all[random.nextInt(all.length)];
    }

    private String expression() {
        String text = pick("1", "12", "123", "a", "-b", "(1)", "-(a<2)", "((1))", "---1");
        while (random.nextInt(3) == 0) {
            text += pick("+", "-", "-", "*", "/", "%", "<", "=", "") + pick("1", "-2", "c", "(3)");
        }
        return text;
    }

    private String process(int depth) {
        if (depth > 8 || random.nextInt(3) == 0) {
            return pick("a:", "O!", "A!", "@") + expression();
        }
        switch (random.nextInt(8)) {
            case 0: return pick(".", "#", "I?a", "B?f", "()", "{}", "[]");
            case 1: return "^" + expression() + "," + process(depth + 1);
            case 2: return "?" + expression() + "," + process(depth + 1) + ","
                    + process(depth + 1);
            case 3: return "{" + parts(depth, 5) + "}";
            case 4: return alternative(depth);
            case 5: return "((((" + process(depth + 4) + "))))";
            default: return "(" + parts(depth, 4) + ")";
        }
    }

    private String parts(int depth, int most) {
        StringBuilder text = new StringBuilder();
        for (int i = random.nextInt(most + 1); i > 0; i--) {
            text.append(process(depth + 1));
        }
        return text.toString();
    }

    private String alternative(int depth) {
        StringBuilder text = new StringBuilder("[");
        for (int i = random.nextInt(5); i >= 0; i--) {
            text.append(expression()).append('&').append(pick(".", "A?a", "I?b"));
            text.append(',').append(process(depth + 2));
        }
        return text.append(']').toString();
    }

    private String changed(String text) {
        int at = random.nextInt(text.length());
        String sign = String.valueOf(SIGNS.charAt(random.nextInt(SIGNS.length())));
        switch (random.nextInt(6)) {
            case 0: return text.substring(0, at);
            case 1: return text.substring(0, at) + text.substring(at + 1);
            case 2: return text.substring(0, at) + sign + text.substring(at);
            case 3: return text.substring(0, at) + sign + text.substring(at + 1);
            default: return text;
        }
    }
}
