/** Promise 5: gifts of the host. */
public final class Promise05GiveTest {
    public static void main(String[] args) {
        needsAProgram();
        eightAtMost();
        waitingTaskGetsItAtOnce();
        waitingAlternativeGetsItAtOnce();
        goesBehindTheQueue();
        Checks.end();
    }

    private static void needsAProgram() {
        Checks x = new Checks();
        x.due(Checks.STATE, "give", 1);
        x.next(".", 1);
        x.due(1, "give", 1);
        x.due(ChannelMachine.ENDED, "run", 1);
        x.due(Checks.STATE, "give", 1);
        x.due(1, "count", 5);
        x.next("#", 1);
        x.due(0, "count", 5);
        x.due(1, "give", 1);
        x.due(Checks.STATE, "run", 2);
        x.due(Checks.STATE, "give", 1);
        x.due(1, "count", 5);
        x.next("(()())", 3);
        x.due(Checks.STATE, "give", 1);
        x.due(0, "count", 5);
        x.next("(()(.))", 4);
        x.due(1, "give", 1);
    }

    private static void eightAtMost() {
        Checks x = Checks.program("^a<20,(I?aO!a)", 4);
        for (int i = 1; i <= 8; i++) {
            x.due(i, "give", i);
        }
        x.due(Checks.STATE, "give", 9);
        x.due(8, "count", 5);
        x.due(ChannelMachine.MORE, "run", 2);
        x.due(8, "give", 9);
        x.due(Checks.STATE, "give", 10);
        x.due(ChannelMachine.HOST, "run", 200);
        x.due(1, "take");
        x.due(ChannelMachine.HOST, "run", 200);
        x.dueBox(2, 3, 4, 5, 6, 7, 8, 9);
    }

    private static void waitingTaskGetsItAtOnce() {
        Checks x = Checks.program("(I?aI?b)", 3);
        x.due(ChannelMachine.HOST, "run", 5);
        x.due(0, "give", Integer.MIN_VALUE);
        x.due(Integer.MIN_VALUE, "variable", 0);
        x.due(0, "channel", 4);
        x.dueTasks(1, 1, 0);
        x.due(1, "give", Integer.MAX_VALUE);
        x.due(0, "variable", 1);
        x.due(ChannelMachine.ENDED, "run", 1);
        x.due(Integer.MAX_VALUE, "variable", 1);
    }

    private static void waitingAlternativeGetsItAtOnce() {
        Checks x = Checks.program("{[1&A?a,O!1a=0&I?b,O!2]#}", 5);
        x.due(ChannelMachine.HOST, "run", 5);
        x.due(0, "give", 3);
        x.dueVariables(0, 3);
        x.dueChannels(0, 0, 0, 0, 0, 0);
        x.due(ChannelMachine.MORE, "run", 1);
        x.dueBox(2);
    }

    private static void goesBehindTheQueue() {
        Checks x = Checks.program("{(I?aO!1)(O!2O!3)(O!4)}", 9);
        x.due(ChannelMachine.MORE, "run", 3);
        x.due(0, "give", 3);
        x.dueTasks(3, 4, 0);
        x.due(ChannelMachine.ENDED, "run", 9);
        x.dueBox(2, 3, 4, 1);
    }
}
