import java.util.Random;

/** All promises: random calls throw nothing but what the document says, and the counts fit together. */
public final class NothingElseTest {
    private static final int MACHINES = 500;
    private static final int PROGRAMS = 3;
    private static final int CALLS = 40;
    private static final int CALLS_BETWEEN_COUNTS = 4;

    public static void main(String[] args) {
        RandomTexts texts = new RandomTexts(512);
        for (int i = 0; i < MACHINES; i++) {
            Checks x = new Checks();
            for (int program = 0; program < PROGRAMS; program++) {
                x.typeText(texts.next());
                isAllowed(x, Checks.BAD, "load");
                callAtRandom(x, texts.random);
                x.answer("load");
            }
        }
        Checks.end();
    }

    private static void isAllowed(Checks x, String allowed, String call, long... numbers) {
        String answer = x.answer(call, numbers);
        if (answer.endsWith("Exception") && !allowed.contains(answer)) {
            Checks.fault(call + " throws " + answer);
        }
    }

    private static void callAtRandom(Checks x, Random random) {
        for (int i = 0; i < CALLS; i++) {
            int small = random.nextInt(10) - 1;
            switch (random.nextInt(8)) {
                case 0: isAllowed(x, Checks.STATE, "give", random.nextInt()); break;
                case 1: isAllowed(x, Checks.NO_ELEMENT, "take"); break;
                case 2: isAllowed(x, Checks.BAD, "variable", small); break;
                case 3: isAllowed(x, Checks.BAD, "set", small, random.nextInt(3)); break;
                case 4: isAllowed(x, Checks.BAD, "channel", small); break;
                default:
                    isAllowed(x, Checks.BAD + Checks.STATE + Checks.ARITHMETIC, "run", random.nextInt(30));
                    break;
            }
            if (i % CALLS_BETWEEN_COUNTS == 0) {
                countsFit(x);
            }
        }
    }

    private static void countsFit(Checks x) {
        int queued = x.number("count", 2);
        int all = x.number("count", 3);
        int gifts = x.number("count", 5);
        int values = x.number("count", 6);
        boolean isToBeRun = x.number("count", 7) == 1;
        int sleeping = x.number("count", 8);
        boolean fits = queued + sleeping <= all && (all > 0) == isToBeRun && gifts <= 8 && values <= 8
                && (x.number("channel", 5) == 0 || values == 8)
                && (x.number("channel", 4) == 0 || gifts == 0);
        if (!fits) {
            Checks.fault("the counts do not fit: queue " + queued + ", tasks " + all + ", sleeping " + sleeping
                    + ", gifts " + gifts + ", values in the box " + values);
        }
    }
}
