/** The sentences of "Terms" on RUNNING that name a boundary case, each with a test of its own. */
public final class BoundaryRunningTest {
    private static final String FULL_BOX = "O!1O!2O!3O!4O!5O!6O!7O!8";

    public static void main(String[] args) {
        parallelWithoutAny();
        taskWithoutAnyAct();
        parallelOfTasksWithoutAct();
        endsBeforeAnAct();
        yieldsBeforeAnAct();
        endsAfterTheLastAct();
        yieldsAfterTheLastAct();
        boxWithFewerThanEight();
        firstOfTheGifts();
        firstOpenOneOfAChannel();
        noneOpenForEver();
        delayAboveZero();
        timeGrowsToTheLeast();
        orderInWhichTheyBeganToWait();
        clashOfInputs();
        clashOfOutputs();
        noClash();
        turnOfTheHost();
        deadlock();
        actsUsedUpComeFirst();
        Checks.end();
    }

    /** "(Without any it goes on.)": the task stays CURRENT and no task is made. */
    private static void parallelWithoutAny() {
        Checks x = Checks.program("{({}O!1{}O!2)O!3}", 7);
        x.due(ChannelMachine.MORE, "run", 2);
        x.dueTasks(2, 3, 0);
        x.due(ChannelMachine.ENDED, "run", 4);
        x.dueBox(1, 2, 3);
        x.next("{}", 1);
        x.due(ChannelMachine.ENDED, "run", 1);
        x.due(1, "count", 4);
    }

    /** "(A task without any ACT ENDS when it's made, and is put nowhere ..": one of a PARALLEL, the program's. */
    private static void taskWithoutAnyAct() {
        Checks x = Checks.program("({()(())O!1((()()))}O!2)", 11);
        x.due(ChannelMachine.MORE, "run", 1);
        x.dueTasks(1, 2, 0);
        x.due(ChannelMachine.MORE, "run", 1);
        x.dueTasks(1, 1, 0);
        x.due(ChannelMachine.ENDED, "run", 1);
        x.dueBox(1, 2);
        x.next("{()#()}", 4);
        x.due(ChannelMachine.MORE, "run", 1);
        x.dueTasks(1, 2, 0);
        for (String text : new String[] {"()", "(())", "(()())"}) {
            x.next(text, text.length() / 2);
            x.dueTasks(0, 0, 0);
            x.due(2, "count", 7);
            x.due(0, "count", 4);
            x.due(Checks.STATE, "run", 1);
        }
    }

    /** ".. if all of a PARALLEL are so, that goes on.)": the task doesn't go behind the others. */
    private static void parallelOfTasksWithoutAct() {
        Checks x = Checks.program("{({()}O!1{()(())()()}O!2)O!3}", 13);
        x.due(ChannelMachine.MORE, "run", 2);
        x.dueTasks(2, 3, 0);
        x.due(ChannelMachine.ENDED, "run", 4);
        x.dueBox(1, 2, 3);
        x.next("{()()()()}", 5);
        x.due(ChannelMachine.ENDED, "run", 1);
    }

    /** "What ENDS .. without another ACT does so as soon as it's CURRENT: before an ACT of a RUN" */
    private static void endsBeforeAnAct() {
        Checks x = Checks.program("I?a", 1);
        x.due(ChannelMachine.HOST, "run", 9);
        x.due(0, "give", 4);
        x.dueTasks(1, 1, 0);
        x.due(1, "count", 7);
        x.due(ChannelMachine.ENDED, "run", 1);
        x.due(1, "count", 4);
        x.next("({I?a}b:1c:1)", 5);
        x.due(ChannelMachine.HOST, "run", 9);
        x.due(0, "give", 4);
        x.dueTasks(1, 2, 0);
        x.due(ChannelMachine.MORE, "run", 1);
        x.dueTasks(1, 1, 0);
        x.dueVariables(4, 1, 0);
    }

    /** "What .. YIELDS without another ACT does so as soon as it's CURRENT: before an ACT of a RUN" */
    private static void yieldsBeforeAnAct() {
        Checks x = Checks.program("{(^1,I?a)(" + FULL_BOX + "O!9b:1b:2)}", 16);
        x.due(ChannelMachine.HOST, "run", 99);
        x.due(0, "give", 4);
        x.due(1, "take");
        x.dueTasks(2, 3, 0);
        x.due(ChannelMachine.MORE, "run", 1);
        x.due(1, "variable", 1);
        x.due(ChannelMachine.MORE, "run", 1);
        x.due(2, "variable", 1);
        x.due(0, "channel", 4);
        x.dueTasks(1, 2, 0);
        x.due(ChannelMachine.HOST, "run", 9);
        x.due(1, "channel", 4);
    }

    /** "What ENDS .. does so ..: .. after its last one, too": one behind the other, up to the program. */
    private static void endsAfterTheLastAct() {
        Checks x = Checks.program("{{{{.}}}}", 5);
        x.due(ChannelMachine.MORE, "run", 4);
        x.dueTasks(1, 5, 0);
        x.due(ChannelMachine.ENDED, "run", 1);
        x.due(2, "count", 7);
        x.next("{A?aB?bC?c(A!1B!2C!3)}", 8);
        x.due(ChannelMachine.MORE, "run", 6);
        x.dueTasks(3, 5, 0);
        x.due(ChannelMachine.ENDED, "run", 1);
        x.dueVariables(1, 2, 3);
        x.next("({A?a(A!1.)}.)", 7);
        x.due(ChannelMachine.MORE, "run", 4);
        x.dueTasks(1, 1, 0);
    }

    /** "What .. YIELDS without another ACT does so ..: .. after its last one, too" */
    private static void yieldsAfterTheLastAct() {
        Checks x = Checks.program("{(^1,I?a)(^1,b:b+1)}", 7);
        x.due(ChannelMachine.MORE, "run", 3);
        x.due(0, "give", 7);
        x.dueTasks(2, 3, 0);
        x.due(ChannelMachine.MORE, "run", 2);
        x.due(1, "variable", 1);
        x.dueTasks(2, 3, 0);
        x.due(ChannelMachine.MORE, "run", 2);
        x.due(2, "variable", 1);
        x.due(0, "channel", 4);
        x.due(ChannelMachine.MORE, "run", 2);
        x.due(1, "channel", 4);
    }

    /** "if the host's box has fewer than 8, it goes in behind and the task goes on, else the task WAITS" */
    private static void boxWithFewerThanEight() {
        Checks x = Checks.program("(" + FULL_BOX + "a:1O!9a:2)", 12);
        x.due(ChannelMachine.MORE, "run", 7);
        x.due(7, "count", 6);
        x.due(ChannelMachine.MORE, "run", 1);
        x.due(8, "count", 6);
        x.dueChannels(0, 0, 0, 0, 0, 0);
        x.due(ChannelMachine.MORE, "run", 1);
        x.due(1, "variable", 0);
        x.due(ChannelMachine.HOST, "run", 9);
        x.due(8, "count", 6);
        x.dueChannels(0, 0, 0, 0, 0, 2);
        x.due(1, "variable", 0);
        x.due(10, "count", 4);
        x.next("(" + FULL_BOX + "O!9)", 10);
        x.due(ChannelMachine.MORE, "run", 8);
        x.due(1, "take");
        x.due(ChannelMachine.ENDED, "run", 1);
        x.dueBox(2, 3, 4, 5, 6, 7, 8, 9);
    }

    /** "On I: the first of the host's gifts, if there is one, else it WAITS." */
    private static void firstOfTheGifts() {
        Checks x = Checks.program("(I?aI?bI?c)", 4);
        x.due(1, "give", 5);
        x.due(2, "give", 6);
        x.due(ChannelMachine.MORE, "run", 1);
        x.dueVariables(5, 0, 0);
        x.due(ChannelMachine.MORE, "run", 1);
        x.dueVariables(5, 6, 0);
        x.due(0, "channel", 4);
        x.due(ChannelMachine.HOST, "run", 2);
        x.due(1, "channel", 4);
        x.dueTasks(0, 1, 0);
        x.due(3, "count", 4);
        x.next("[1&I?a,b:1" + "1&.,b:2]", 3);
        x.due(ChannelMachine.ENDED, "run", 2);
        x.dueVariables(0, 2);
        x.next("[1&I?a,b:a" + "1&.,b:2]", 3);
        x.due(1, "give", 9);
        x.due(ChannelMachine.ENDED, "run", 2);
        x.dueVariables(9, 9);
    }

    /** "(the first OPEN one of a channel stands for it)" */
    private static void firstOpenOneOfAChannel() {
        Checks x = Checks.program("{[0&A?a,O!1" + "1&A?b,O!2" + "1&A?c,O!3" + "1&A?d,O!4]A!5}", 7);
        x.due(ChannelMachine.ENDED, "run", 9);
        x.dueVariables(0, 5, 0, 0);
        x.dueBox(2);
        x.next("[0&I?a,O!1" + "0&I?b,O!2" + "1&I?c,O!3" + "1&I?d,O!4]", 5);
        x.due(ChannelMachine.HOST, "run", 9);
        x.due(0, "give", 7);
        x.due(ChannelMachine.ENDED, "run", 1);
        x.dueVariables(0, 0, 7, 0);
        x.dueBox(3);
        x.next("{[1&A?a,O!1" + "1&B?b,O!2" + "1&A?c,O!3" + "1&B?d,O!4]B!5}", 7);
        x.due(ChannelMachine.MORE, "run", 2);
        x.dueChannels(1, 1, 0, 0, 0, 0);
        x.due(ChannelMachine.MORE, "run", 1);
        x.dueChannels(0, 0, 0, 0, 0, 0);
        x.due(ChannelMachine.ENDED, "run", 9);
        x.dueVariables(0, 5, 0, 0);
        x.dueBox(2);
    }

    /** "None is ready: with OPEN ones the task WAITS ..; without, for ever." */
    private static void noneOpenForEver() {
        for (String text : new String[] {"[0&.,.]", "[0&I?a,.]", "[0&A?a,.0&.,.1-1&I?a,.]", "[]"}) {
            Checks x = new Checks();
            x.typeText(text);
            x.answer("load");
            x.due(1, "give", 3);
            x.due(ChannelMachine.MORE, "run", 1);
            x.dueTasks(0, 1, 0);
            x.dueChannels(0, 0, 0, 0, 0, 0);
            x.due(2, "give", 3);
            x.dueTasks(0, 1, 0);
            x.due(Checks.STATE, "run", 1);
            x.due(3, "count", 7);
            x.due(1, "count", 4);
        }
        Checks x = Checks.program("{[0&A?a,.]A!1}", 4);
        x.due(ChannelMachine.MORE, "run", 3);
        x.due(2, "channel", 0);
        x.due(Checks.STATE, "run", 1);
        x.next("[-1&.,.]", 2);
        x.due(ChannelMachine.ENDED, "run", 2);
    }

    /** "the EXPRESSION's value d above 0: the task WAITS until TIME has grown by d; else it goes on" */
    private static void delayAboveZero() {
        int[] delays = {0, -1, Integer.MIN_VALUE};
        for (int d : delays) {
            Checks x = Checks.program("{(@aO!1)O!2}", 5);
            x.due(0, "set", 0, d);
            x.due(ChannelMachine.MORE, "run", 2);
            x.dueTasks(2, 3, 0);
            x.due(ChannelMachine.ENDED, "run", 2);
            x.due(0, "count", 1);
            x.dueBox(1, 2);
        }
        int[] above = {1, 2, Integer.MAX_VALUE};
        for (int d : above) {
            Checks x = Checks.program("{(@aO!1)O!2}", 5);
            x.due(0, "set", 0, d);
            x.due(ChannelMachine.MORE, "run", 2);
            x.dueTasks(1, 3, 1);
            x.due(0, "count", 1);
            x.due(ChannelMachine.ENDED, "run", 2);
            x.due(d, "count", 1);
            x.dueBox(2, 1);
        }
    }

    /** "It only grows when THE QUEUE is empty and there are TASKS WAITING for TIME: to the least one" */
    private static void timeGrowsToTheLeast() {
        Checks x = Checks.program("{(@9.)(@7.)(@8.)}", 10);
        x.due(ChannelMachine.MORE, "run", 4);
        x.due(0, "count", 1);
        x.dueTasks(0, 4, 3);
        x.due(ChannelMachine.MORE, "run", 1);
        x.due(7, "count", 1);
        x.dueTasks(0, 3, 2);
        x.due(ChannelMachine.MORE, "run", 1);
        x.due(8, "count", 1);
        x.due(ChannelMachine.ENDED, "run", 1);
        x.due(9, "count", 1);
        x.next("{@5^1,.}", 4);
        x.due(ChannelMachine.MORE, "run", 200);
        x.due(0, "count", 1);
        x.next("{@5I?a}", 3);
        x.due(ChannelMachine.HOST, "run", 9);
        x.due(5, "count", 1);
        x.due(ChannelMachine.HOST, "run", 9);
        x.due(5, "count", 1);
    }

    /** "all with this are put at the end of THE QUEUE, in the order in which they began to wait" */
    private static void orderInWhichTheyBeganToWait() {
        Checks x = Checks.program("{(@2@2O!1)(@4O!2)(@1@3O!3)(@4O!4)}", 15);
        x.due(ChannelMachine.MORE, "run", 7);
        x.due(2, "count", 1);
        x.dueTasks(0, 5, 4);
        x.due(ChannelMachine.MORE, "run", 1);
        x.due(4, "count", 1);
        x.dueTasks(3, 4, 0);
        x.due(ChannelMachine.ENDED, "run", 9);
        x.dueBox(2, 4, 3, 1);
    }

    private static void dueClash(String text, int acts) {
        Checks x = new Checks();
        x.typeText(text);
        x.answer("load");
        x.due(ChannelMachine.MORE, "run", acts - 1);
        x.due(1, "count", 7);
        x.due(Checks.STATE, "run", 1);
        x.due(acts, "count", 4);
        x.due(3, "count", 7);
        x.dueTasks(0, 0, 0);
        x.dueChannels(0, 0, 0, 0, 0, 0);
    }

    /** "A second task to WAIT for INPUT at one of A .. D or I .. while another does: CLASH." */
    private static void clashOfInputs() {
        for (String name : new String[] {"A", "B", "C", "D", "I"}) {
            dueClash("{N?aN?b}".replace("N", name), 3);
            dueClash("{[1&N?a,.]N?b}".replace("N", name), 3);
            dueClash("{N?a[1&N?b,.]}".replace("N", name), 3);
            dueClash("{[1&N?a,.][0&.,.1&N?b,.]}".replace("N", name), 3);
        }
        dueClash("{D?a[1&A?b,.1&B?b,.1&C?b,.1&D?b,.]}", 3);
    }

    /** "A second task to WAIT .. with OUTPUT at one of A .. D or O, while another does: CLASH." */
    private static void clashOfOutputs() {
        for (String name : new String[] {"A", "B", "C", "D"}) {
            dueClash("{N!1N!2}".replace("N", name), 3);
        }
        dueClash("(" + FULL_BOX + "{O!9O!9})", 11);
    }

    /** No CLASH: one of each kind, a second one that needn't WAIT, a closed GUARD, other channels. */
    private static void noClash() {
        Checks x = Checks.program("{(A?aA?b)(A!1A!2)}", 7);
        x.due(ChannelMachine.ENDED, "run", 9);
        x.dueVariables(1, 2);
        x.next("{A?a[0&A?b,.1&B?b,.]}", 5);
        x.due(ChannelMachine.MORE, "run", 3);
        x.dueChannels(1, 1, 0, 0, 0, 0);
        x.next("{A?a[1&A?b,.1&.,.]}", 5);
        x.due(ChannelMachine.MORE, "run", 4);
        x.dueTasks(0, 2, 0);
        x.next("{A!1B!2C?aD?b}", 5);
        x.due(ChannelMachine.MORE, "run", 5);
        x.dueChannels(2, 2, 1, 1, 0, 0);
        x.next("(" + FULL_BOX + "{O!9(I?aO!8)})", 14);
        x.due(ChannelMachine.HOST, "run", 99);
        x.dueChannels(0, 0, 0, 0, 1, 2);
        x.due(1, "take");
        x.due(2, "take");
        x.due(0, "give", 1);
        x.due(ChannelMachine.ENDED, "run", 9);
        x.dueBox(3, 4, 5, 6, 7, 8, 9, 8);
    }

    /** "if one WAITS at I or O it's the HOST's turn" */
    private static void turnOfTheHost() {
        Checks x = Checks.program("{#I?aA?b}", 4);
        x.due(ChannelMachine.HOST, "run", 9);
        x.due(ChannelMachine.HOST, "run", 1);
        x.due(4, "count", 4);
        x.next("(" + FULL_BOX + "O!9)", 10);
        x.due(ChannelMachine.HOST, "run", 10);
        x.due(ChannelMachine.HOST, "run", 1);
        x.due(9, "count", 4);
        x.next("{A!1[1&B?a,.1&I?a,.]}", 5);
        x.due(ChannelMachine.HOST, "run", 9);
        x.next("{I?a@3}", 3);
        x.due(ChannelMachine.MORE, "run", 3);
        x.due(0, "count", 1);
        x.due(ChannelMachine.HOST, "run", 1);
        x.due(3, "count", 1);
        x.due(3, "count", 4);
    }

    /** "else a DEADLOCK": IllegalStateException, and the program is BROKEN. */
    private static void deadlock() {
        String[] texts = {"#", "A?a", "D!1", "[]", "[1&A?a,.]", "{#}", "{#A?aB!1}", "(@3#)", "{C?a[0&I?a,.]}"};
        int[] acts = {1, 1, 1, 1, 1, 2, 4, 2, 3};
        for (int i = 0; i < texts.length; i++) {
            Checks x = new Checks();
            x.typeText(texts[i]);
            x.answer("load");
            x.due(Checks.STATE, "run", 200);
            x.due(acts[i], "count", 4);
            x.due(3, "count", 7);
            x.dueTasks(0, 0, 0);
            x.dueChannels(0, 0, 0, 0, 0, 0);
            x.due(Checks.STATE, "run", 200);
            x.due(Checks.STATE, "give", 1);
        }
    }

    /** "as many ACTS as it may were done" stands before HOST and DEADLOCK, behind "the program has ENDED". */
    private static void actsUsedUpComeFirst() {
        Checks x = Checks.program("#", 1);
        x.due(ChannelMachine.MORE, "run", 1);
        x.due(1, "count", 7);
        x.dueTasks(0, 1, 0);
        x.due(Checks.STATE, "run", 1);
        x.next("I?a", 1);
        x.due(ChannelMachine.MORE, "run", 1);
        x.due(ChannelMachine.HOST, "run", 1);
        x.next("@3", 1);
        x.due(ChannelMachine.MORE, "run", 1);
        x.due(0, "count", 1);
        x.due(ChannelMachine.ENDED, "run", 1);
        x.due(3, "count", 1);
        x.due(1, "count", 4);
        x.next(".", 1);
        x.due(ChannelMachine.ENDED, "run", 1);
    }
}
