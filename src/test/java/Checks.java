import java.util.ArrayList;
import java.util.List;
import java.util.NoSuchElementException;

/** Calls a machine and compares each answer with the one that is due. */
final class Checks {
    static final String BAD = "IllegalArgumentException";
    static final String STATE = "IllegalStateException";
    static final String ARITHMETIC = "ArithmeticException";
    static final String NO_ELEMENT = "NoSuchElementException";

    /** So many calls of one object are promised; a test that makes more tells nothing. */
    private static final int CALLS_MOST = 512;

    private static int wrong = 0;

    private final ChannelMachine machine = new ChannelMachine();
    private final List<String> calls = new ArrayList<>();
    private int callsMade = 0;

    /** Ends the test's program: with exit code 1 if an answer was wrong. */
    static void end() {
        if (wrong > 0) {
            System.out.println(wrong + " wrong answers");
            System.exit(1);
        }
    }

    static void fault(String what) {
        wrong++;
        System.out.println(what);
    }

    /** The next eight or fewer characters of a text from an index on, as type takes them. */
    static long eightOf(String text, int from) {
        long eight = 0;
        for (int i = from; i < Math.min(text.length(), from + 8); i++) {
            eight = eight << 8 | text.charAt(i);
        }
        return eight;
    }

    /** One call by name, answered as text: a number or the exception's simple name. */
    String answer(String call, long... numbers) {
        calls.add(call + java.util.Arrays.toString(numbers));
        try {
            return String.valueOf(answerNumber(call, numbers));
        } catch (IllegalArgumentException | IllegalStateException | ArithmeticException
                | NoSuchElementException e) {
            return e.getClass().getSimpleName();
        }
    }

    private long answerNumber(String call, long[] numbers) {
        countCall();
        switch (call) {
            case "type": return machine.type(numbers[0]);
            case "load": return machine.load();
            case "run": return machine.run((int) numbers[0]);
            case "give": return machine.give((int) numbers[0]);
            case "take": return machine.take();
            case "variable": return machine.variable((int) numbers[0]);
            case "set": machine.set((int) numbers[0], (int) numbers[1]); return 0;
            case "channel": return machine.channel((int) numbers[0]);
            case "count": return machine.count((int) numbers[0]);
            default: throw new AssertionError(call);
        }
    }

    private void countCall() {
        callsMade++;
        if (callsMade == CALLS_MOST + 1) {
            fault("a test makes more than " + CALLS_MOST + " calls of one object");
        }
    }

    /** One call that answers a number. */
    int number(String call, long... numbers) {
        return Integer.parseInt(answer(call, numbers));
    }

    private void compare(String got, String due) {
        if (!got.equals(due)) {
            fault("after " + calls + ": answered " + got + ", due is " + due);
        }
    }

    void due(String due, String call, long... numbers) {
        compare(answer(call, numbers), due);
    }

    void due(long due, String call, long... numbers) {
        compare(answer(call, numbers), String.valueOf(due));
    }

    /** Types a text of at most 72 characters. */
    void typeText(String text) {
        calls.add("\"" + text + "\"");
        for (int i = 0; i < text.length(); i += 8) {
            countCall();
            machine.type(eightOf(text, i));
        }
    }

    /** A new machine with this program, of so many processes. */
    static Checks program(String text, int processes) {
        Checks checks = new Checks();
        checks.next(text, processes);
        return checks;
    }

    /** Loads another program into the same machine. */
    void next(String text, int processes) {
        typeText(text);
        due(processes, "load");
    }

    /** On a new machine this text can't be read, and this is the place. */
    static void unreadable(String text, int place) {
        Checks checks = new Checks();
        checks.typeText(text);
        checks.due(BAD, "load");
        checks.due(place, "count", 0);
    }

    void dueVariables(int... due) {
        for (int i = 0; i < due.length; i++) {
            due(due[i], "variable", i);
        }
    }

    void dueChannels(int... due) {
        for (int i = 0; i < due.length; i++) {
            due(due[i], "channel", i);
        }
    }

    /** Takes these values out of the box, which is empty then. */
    void dueBox(int... due) {
        for (int value : due) {
            due(value, "take");
        }
        due(NO_ELEMENT, "take");
    }

    /** The tasks in the queue, those there are, and those that wait for time. */
    void dueTasks(int queued, int all, int sleeping) {
        due(queued, "count", 2);
        due(all, "count", 3);
        due(sleeping, "count", 8);
    }
}
