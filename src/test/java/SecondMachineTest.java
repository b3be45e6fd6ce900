import java.util.NoSuchElementException;
import java.util.Random;
import java.util.function.IntSupplier;

/**
 * Promises 3 to 11: random runs of random programs, each answer and now and then the whole state beside a
 * second machine's. Another seed and number of machines may be given.
 */
public final class SecondMachineTest {
    private static final int MACHINES = 2000;
    private static final int PROGRAMS = 3;
    private static final int CALLS = 24;
    private static final int CALLS_BETWEEN_STATES = 5;

    private final Checks x = new Checks();
    private final SecondMachine second = new SecondMachine();
    private final Random random;

    private SecondMachineTest(Random random) {
        this.random = random;
    }

    public static void main(String[] args) {
        RandomTrees trees = new RandomTrees(args.length > 0 ? Long.parseLong(args[0]) : 20261116);
        int machines = args.length > 1 ? Integer.parseInt(args[1]) : MACHINES;
        for (int i = 0; i < machines; i++) {
            SecondMachineTest test = new SecondMachineTest(trees.random);
            for (int program = 0; program < PROGRAMS; program++) {
                SecondMachine.Tree tree = trees.next();
                test.x.next(tree.text(), test.second.load(tree));
                test.sameState();
                test.callAtRandom();
            }
        }
        Checks.end();
    }

    private void callAtRandom() {
        for (int i = 0; i < CALLS; i++) {
            int number = random.nextBoolean() ? random.nextInt(4) : random.nextInt();
            int variable = random.nextInt(6);
            int acts = random.nextInt(3) == 0 ? random.nextInt(203) : 1 + random.nextInt(5);
            switch (random.nextInt(8)) {
                case 0:
                case 1: x.due(answerOf(() -> second.give(number)), "give", number); break;
                case 2: x.due(answerOf(second::take), "take"); break;
                case 3:
                    x.due(0, "set", variable, number);
                    second.variables[variable] = number;
                    break;
                default: x.due(answerOf(() -> second.run(acts)), "run", acts); break;
            }
            if (i % CALLS_BETWEEN_STATES == 0) {
                sameState();
            }
        }
    }

    private static String answerOf(IntSupplier call) {
        try {
            return String.valueOf(call.getAsInt());
        } catch (IllegalArgumentException | IllegalStateException | ArithmeticException
                | NoSuchElementException e) {
            return e.getClass().getSimpleName();
        }
    }

    private void sameState() {
        for (int what = 0; what <= 8; what++) {
            x.due(second.count(what), "count", what);
        }
        for (int i = 0; i < 6; i++) {
            x.due(second.channel(i), "channel", i);
            x.due(second.variables[i], "variable", i);
        }
    }
}
