/** Promise 4: the acts of a run, who does them and in which order, and when the run stops. */
public final class Promise04RunTest {
    public static void main(String[] args) {
        wrongNumbers();
        noProgramToBeRun();
        actsAreCounted();
        conditions();
        loopsYield();
        parallels();
        partsWithoutActs();
        programWithoutActs();
        endsAndYieldsNeedNoAct();
        stop();
        stopsInOrder();
        Checks.end();
    }

    private static void wrongNumbers() {
        Checks x = new Checks();
        int[] wrong = {0, 201, -1, Integer.MIN_VALUE, Integer.MAX_VALUE};
        for (int n : wrong) {
            x.due(Checks.BAD, "run", n);
        }
        x.next("^1,.", 2);
        for (int n : wrong) {
            x.due(Checks.BAD, "run", n);
        }
        x.due(0, "count", 4);
        x.due(ChannelMachine.MORE, "run", 200);
        x.due(200, "count", 4);
        x.due(ChannelMachine.MORE, "run", 1);
        x.due(201, "count", 4);
    }

    private static void noProgramToBeRun() {
        Checks x = new Checks();
        x.due(Checks.STATE, "run", 1);
        x.next(".", 1);
        x.due(ChannelMachine.ENDED, "run", 1);
        x.due(Checks.STATE, "run", 1);
        x.due(Checks.BAD, "run", 0);
        x.next("#", 1);
        x.due(Checks.STATE, "run", 2);
        x.due(Checks.STATE, "run", 1);
        x.due(Checks.BAD, "run", 201);
        x.due(1, "count", 4);
    }

    private static void dueActs(int due, String text) {
        Checks x = new Checks();
        x.typeText(text);
        x.answer("load");
        x.due(ChannelMachine.ENDED, "run", 200);
        x.due(due, "count", 4);
        x.due(2, "count", 7);
    }

    private static void actsAreCounted() {
        dueActs(1, ".");
        dueActs(1, "a:1");
        dueActs(2, "(..)");
        dueActs(3, "((.)(.(.)))");
        dueActs(2, "?1,.,(...)");
        dueActs(4, "?0,.,(...)");
        dueActs(1, "^0,.");
        dueActs(7, "^a<3,a:a+1");
        dueActs(1, "{}");
        dueActs(3, "{..}");
        dueActs(1, "@0");
        dueActs(1, "@-5");
        dueActs(1, "@5");
        dueActs(2, "[1&.,.]");
        dueActs(1, "[1&.,()]");
        dueActs(3, "{A!1A?a}");
        dueActs(1, "O!1");
    }

    private static void conditions() {
        Checks x = Checks.program("(?2-2,a:1,a:2?0-1,b:1,b:2)", 7);
        x.due(ChannelMachine.MORE, "run", 1);
        x.due(0, "variable", 0);
        x.due(ChannelMachine.MORE, "run", 1);
        x.due(2, "variable", 0);
        x.due(ChannelMachine.ENDED, "run", 2);
        x.due(1, "variable", 1);
    }

    private static void loopsYield() {
        Checks x = Checks.program("{^1,a:a+1(b:1b:2b:3)^1,c:c+1}", 9);
        x.due(ChannelMachine.MORE, "run", 3);
        x.dueVariables(1, 0, 0);
        x.due(ChannelMachine.MORE, "run", 3);
        x.dueVariables(1, 3, 0);
        x.dueTasks(2, 3, 0);
        x.due(ChannelMachine.MORE, "run", 2);
        x.dueVariables(1, 3, 1);
        x.due(ChannelMachine.MORE, "run", 2);
        x.dueVariables(2, 3, 1);
        x.next("{^a<2,a:a+1O!a}", 4);
        x.due(ChannelMachine.ENDED, "run", 50);
        x.dueBox(1);
    }

    private static void parallels() {
        Checks x = Checks.program("({O!1O!2(O!3O!4)O!5}O!6)", 9);
        x.dueTasks(1, 1, 0);
        x.due(ChannelMachine.MORE, "run", 1);
        x.dueTasks(4, 5, 0);
        x.due(ChannelMachine.MORE, "run", 1);
        x.dueTasks(3, 4, 0);
        x.due(ChannelMachine.MORE, "run", 2);
        x.dueTasks(2, 3, 0);
        x.due(ChannelMachine.MORE, "run", 2);
        x.dueTasks(1, 1, 0);
        x.due(ChannelMachine.ENDED, "run", 1);
        x.dueTasks(0, 0, 0);
        x.dueBox(1, 2, 3, 4, 5, 6);
        x.next("{{O!1O!2}O!3({O!4}O!5)}", 9);
        x.due(ChannelMachine.ENDED, "run", 50);
        x.dueBox(3, 1, 2, 4, 5);
        x.next("^a<2,{a:a+1b:b+1c:c+1}", 5);
        x.due(ChannelMachine.ENDED, "run", 50);
        x.dueVariables(2, 2, 2);
        x.due(11, "count", 4);
    }

    private static void partsWithoutActs() {
        Checks x = Checks.program("({()(()()).}.)", 8);
        x.due(ChannelMachine.MORE, "run", 1);
        x.dueTasks(1, 2, 0);
        x.due(ChannelMachine.MORE, "run", 1);
        x.dueTasks(1, 1, 0);
        x.due(ChannelMachine.ENDED, "run", 1);
        x.next("{(({()()}O!1))O!2}", 8);
        x.due(ChannelMachine.MORE, "run", 3);
        x.due(1, "take");
        x.due(ChannelMachine.ENDED, "run", 1);
        x.next("^1,()", 2);
        x.due(ChannelMachine.MORE, "run", 9);
        x.dueTasks(1, 1, 0);
    }

    private static void programWithoutActs() {
        String[] without = {"()", "(())", "(()())", "(((()))(()()))", "((((((()))))))"};
        int[] processes = {1, 2, 3, 7, 7};
        Checks x = new Checks();
        for (int i = 0; i < without.length; i++) {
            x.next(without[i], processes[i]);
            x.due(Checks.STATE, "run", 1);
            x.due(Checks.STATE, "run", 200);
            x.due(Checks.BAD, "run", 0);
            x.due(0, "count", 4);
        }
        x.next("(()(.))", 4);
        x.due(ChannelMachine.ENDED, "run", 1);
        x.next("{}", 1);
        x.due(ChannelMachine.ENDED, "run", 1);
        x.next("{()}", 2);
        x.due(ChannelMachine.ENDED, "run", 1);
        x.next("[]", 1);
        x.due(ChannelMachine.MORE, "run", 1);
        x.due(Checks.STATE, "run", 1);
    }

    private static void endsAndYieldsNeedNoAct() {
        Checks x = Checks.program("{A?aA!1}", 3);
        x.due(ChannelMachine.ENDED, "run", 3);
        x.next("I?a", 1);
        x.due(ChannelMachine.MORE, "run", 1);
        x.due(ChannelMachine.HOST, "run", 1);
        x.due(0, "give", 3);
        x.dueTasks(1, 1, 0);
        x.due(1, "count", 7);
        x.due(ChannelMachine.ENDED, "run", 1);
        x.due(1, "count", 4);
        x.next("{^1,I?aO!9}", 4);
        x.due(ChannelMachine.HOST, "run", 9);
        x.due(0, "give", 3);
        x.dueTasks(1, 2, 0);
        x.due(ChannelMachine.MORE, "run", 1);
        x.dueChannels(0, 0, 0, 0, 0, 0);
        x.next("{(^1,A?a)(A!1^b<2,b:b+1)}", 8);
        x.due(ChannelMachine.MORE, "run", 6);
        x.dueTasks(2, 3, 0);
        x.due(1, "variable", 1);
        x.due(ChannelMachine.MORE, "run", 2);
        x.due(2, "variable", 1);
        x.due(0, "channel", 0);
        x.due(ChannelMachine.MORE, "run", 2);
        x.due(1, "channel", 0);
        x.next("{{..}{..}}", 7);
        x.due(ChannelMachine.ENDED, "run", 7);
    }

    private static void stop() {
        Checks x = Checks.program("{#a:1}", 3);
        x.due(ChannelMachine.MORE, "run", 2);
        x.dueTasks(1, 3, 0);
        x.due(Checks.STATE, "run", 5);
        x.due(1, "variable", 0);
        x.due(3, "count", 4);
        x.due(3, "count", 7);
        x.next("{#I?a}", 3);
        x.due(ChannelMachine.HOST, "run", 5);
        x.due(0, "give", 1);
        x.due(Checks.STATE, "run", 5);
        x.next("[]", 1);
        x.due(ChannelMachine.MORE, "run", 1);
        x.due(1, "count", 7);
        x.dueTasks(0, 1, 0);
        x.due(Checks.STATE, "run", 1);
        x.due(3, "count", 7);
        x.dueTasks(0, 0, 0);
        x.due(1, "count", 4);
    }

    private static void stopsInOrder() {
        Checks x = Checks.program("(.I?a)", 3);
        x.due(ChannelMachine.MORE, "run", 2);
        x.due(1, "channel", 4);
        x.due(ChannelMachine.HOST, "run", 1);
        x.due(ChannelMachine.HOST, "run", 200);
        x.due(2, "count", 4);
        x.next("A!1", 1);
        x.due(ChannelMachine.MORE, "run", 1);
        x.due(2, "channel", 0);
        x.due(Checks.STATE, "run", 1);
        x.due(0, "channel", 0);
        x.next("{A!1O!1I?a}", 4);
        x.due(ChannelMachine.HOST, "run", 200);
        x.dueChannels(2, 0, 0, 0, 1, 0);
        x.next("(..)", 3);
        x.due(ChannelMachine.MORE, "run", 1);
        x.due(ChannelMachine.ENDED, "run", 1);
    }
}
