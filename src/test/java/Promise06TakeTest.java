/** Promise 6: the host takes values out of the box. */
public final class Promise06TakeTest {
    public static void main(String[] args) {
        emptyBox();
        staysBehindTheProgram();
        waitingTaskGoesOn();
        waitingTaskOfABrokenProgram();
        Checks.end();
    }

    private static void emptyBox() {
        Checks x = new Checks();
        x.due(Checks.NO_ELEMENT, "take");
        x.next("(O!5.)", 3);
        x.due(Checks.NO_ELEMENT, "take");
        x.due(ChannelMachine.MORE, "run", 1);
        x.due(1, "count", 6);
        x.due(5, "take");
        x.due(0, "count", 6);
        x.due(Checks.NO_ELEMENT, "take");
    }

    private static void staysBehindTheProgram() {
        Checks x = Checks.program("(O!1O!-2)", 3);
        x.due(ChannelMachine.ENDED, "run", 5);
        x.due(2, "count", 6);
        x.dueBox(1, -2);
        x.next("(O!3O!4#)", 4);
        x.due(Checks.STATE, "run", 5);
        x.due(2, "count", 6);
        x.dueBox(3, 4);
        x.next("(O!3O!4#)", 4);
        x.due(ChannelMachine.MORE, "run", 2);
        x.next(".", 1);
        x.dueBox();
    }

    private static void waitingTaskGoesOn() {
        Checks x = Checks.program("{(^a<9,(a:a+1O!a)b:1)(I?cI?d)}", 10);
        x.due(ChannelMachine.HOST, "run", 200);
        x.dueChannels(0, 0, 0, 0, 1, 2);
        x.due(0, "give", 1);
        x.due(1, "take");
        x.dueChannels(0, 0, 0, 0, 0, 0);
        x.due(8, "count", 6);
        x.dueTasks(2, 3, 0);
        x.due(ChannelMachine.MORE, "run", 1);
        x.dueChannels(0, 0, 0, 0, 1, 0);
        x.due(2, "take");
        x.due(7, "count", 6);
        x.due(ChannelMachine.HOST, "run", 9);
        x.due(1, "variable", 1);
        x.dueBox(3, 4, 5, 6, 7, 8, 9);
    }

    private static void waitingTaskOfABrokenProgram() {
        Checks x = Checks.program("{^1,(a:a+1O!a)(I?bA?bb:1/0)}", 9);
        x.due(ChannelMachine.HOST, "run", 200);
        x.due(2, "channel", 5);
        x.due(0, "give", 1);
        x.next("{^1,(a:a+1O!a)(I?bb:1/0)}", 8);
        x.due(ChannelMachine.HOST, "run", 200);
        x.due(2, "channel", 5);
        x.due(0, "give", 1);
        x.due(Checks.ARITHMETIC, "run", 9);
        x.due(0, "channel", 5);
        x.due(1, "take");
        x.due(7, "count", 6);
        x.dueBox(2, 3, 4, 5, 6, 7, 8);
    }
}
