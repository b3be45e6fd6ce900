/** "An object is used for at most 512 calls after it has been made": the last ones answer as the first. */
public final class WhatItIsTest {
    private static final int CALLS = 512;

    public static void main(String[] args) {
        actsOfAllCalls();
        timeOfAllCalls();
        programsOfAllCalls();
        unreadableTextsOfAllCalls();
        giftsOfAllCalls();
        Checks.end();
    }

    private static long eight(String text) {
        return Checks.eightOf(text, 0);
    }

    private static void actsOfAllCalls() {
        Checks x = new Checks();
        x.due(4, "type", eight("^1,."));
        x.due(2, "load");
        for (int call = 3; call < CALLS; call++) {
            x.due(ChannelMachine.MORE, "run", 200);
        }
        x.due((CALLS - 3) * 200, "count", 4);
    }

    /** Each run lets TIME grow by 100 times the greatest int: behind the first few it needs 64 bits. */
    private static void timeOfAllCalls() {
        Checks x = new Checks();
        x.due(5, "type", eight("^1,@a"));
        x.due(2, "load");
        x.due(0, "set", 0, Integer.MAX_VALUE);
        for (int call = 4; call < CALLS; call++) {
            x.due(ChannelMachine.MORE, "run", 200);
        }
        long delays = (CALLS - 4) * 100L;
        // The last run's last delay has begun, but TIME hasn't grown by it yet.
        x.due((int) ((delays - 1) * Integer.MAX_VALUE), "count", 1);
    }

    /** Programs of 72 characters, one after the other: the last one is read and run as the first. */
    private static void programsOfAllCalls() {
        String text = "{" + "(....)".repeat(3) + "(" + ".".repeat(50) + ")}";
        Checks x = new Checks();
        int calls = 0;
        while (calls + 11 <= CALLS) {
            for (int from = 0; from < text.length(); from += 8) {
                x.due(Math.min(from + 8, text.length()), "type", Checks.eightOf(text, from));
                calls++;
            }
            x.due(67, "load");
            x.due(ChannelMachine.ENDED, "run", 200);
            calls += 2;
        }
        while (calls < CALLS) {
            x.due(63, "count", 4);
            calls++;
        }
    }

    private static void unreadableTextsOfAllCalls() {
        Checks x = new Checks();
        for (int call = 1; call + 2 <= CALLS; call += 3) {
            x.due(6, "type", eight("[1&.,#"));
            x.due(Checks.BAD, "load");
            x.due(6, "count", 0);
        }
        x.due(0, "count", 7);
        x.due(0, "type", 0);
    }

    private static void giftsOfAllCalls() {
        Checks x = new Checks();
        x.due(8, "type", eight("^1,(I?aO"));
        x.due(12, "type", eight("!a+a"));
        x.due(13, "type", eight(")"));
        x.due(4, "load");
        x.due(ChannelMachine.HOST, "run", 200);
        int calls = 5;
        for (int value = 1; calls + 3 <= CALLS; value++) {
            x.due(0, "give", value);
            x.due(ChannelMachine.HOST, "run", 200);
            x.due(2 * value, "take");
            calls += 3;
        }
    }
}
