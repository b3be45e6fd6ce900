/** Promise 4: delays, and when time grows. */
public final class Promise04TimeTest {
    public static void main(String[] args) {
        noDelay();
        growsOnlyWhenTheQueueIsEmpty();
        orderOfWaking();
        timeBeforeHost();
        timeNeedsNoAct();
        Checks.end();
    }

    private static void noDelay() {
        Checks x = Checks.program("(@0@-3@a-1O!1)", 5);
        x.due(ChannelMachine.ENDED, "run", 4);
        x.due(0, "count", 1);
        x.dueBox(1);
        x.next("{(@0O!1)(@0-1O!2)O!3}", 8);
        x.due(ChannelMachine.MORE, "run", 2);
        x.dueTasks(3, 4, 0);
        x.due(ChannelMachine.ENDED, "run", 9);
        x.dueBox(1, 2, 3);
    }

    private static void growsOnlyWhenTheQueueIsEmpty() {
        Checks x = Checks.program("{(@5a:1)(...)}", 8);
        x.due(ChannelMachine.MORE, "run", 2);
        x.dueTasks(1, 3, 1);
        x.due(ChannelMachine.MORE, "run", 3);
        x.dueTasks(0, 2, 1);
        x.due(0, "count", 1);
        x.due(ChannelMachine.ENDED, "run", 1);
        x.due(5, "count", 1);
        x.due(1, "variable", 0);
        x.next("{@5^1,.}", 4);
        x.due(ChannelMachine.MORE, "run", 200);
        x.due(0, "count", 1);
        x.dueTasks(1, 3, 1);
    }

    private static void orderOfWaking() {
        Checks x = Checks.program("{(@4O!1)(@1@3O!2)(@4O!3)(@2O!4@2O!5)}", 16);
        x.due(ChannelMachine.ENDED, "run", 50);
        x.dueBox(4, 1, 3, 2, 5);
        x.due(4, "count", 1);
        x.next("{(@9O!1)(@7O!2)(@8O!3)}", 10);
        x.due(ChannelMachine.MORE, "run", 4);
        x.dueTasks(0, 4, 3);
        x.due(ChannelMachine.MORE, "run", 1);
        x.due(7, "count", 1);
        x.dueTasks(0, 3, 2);
        x.due(ChannelMachine.ENDED, "run", 50);
        x.dueBox(2, 3, 1);
        x.due(9, "count", 1);
    }

    private static void timeBeforeHost() {
        Checks x = Checks.program("{(I?aO!a)(@3O!1)}", 7);
        x.due(ChannelMachine.HOST, "run", 50);
        x.due(3, "count", 1);
        x.dueBox(1);
        x.next("{A?a(@3A!1)}", 5);
        x.due(ChannelMachine.ENDED, "run", 50);
        x.due(1, "variable", 0);
    }

    private static void timeNeedsNoAct() {
        Checks x = Checks.program("{@5@3}", 3);
        x.due(ChannelMachine.MORE, "run", 3);
        x.due(0, "count", 1);
        x.due(ChannelMachine.ENDED, "run", 1);
        x.due(3, "count", 4);
        x.due(5, "count", 1);
        x.next("(@5#)", 3);
        x.due(ChannelMachine.MORE, "run", 2);
        x.due(Checks.STATE, "run", 1);
        x.due(5, "count", 1);
    }
}
