/** Promise 4: how tasks meet at channels, clash there, and choose among guards. */
public final class Promise04ChannelsTest {
    public static void main(String[] args) {
        inputFirst();
        outputFirst();
        clashes();
        outputToTheBox();
        inputOfGifts();
        firstReadyGuard();
        closedGuards();
        waitingAtSeveralChannels();
        firstGuardOfAChannel();
        clashOfAlternatives();
        Checks.end();
    }

    private static void inputFirst() {
        Checks x = Checks.program("{(A?aO!1)(A!7O!2O!3)}", 8);
        x.due(ChannelMachine.MORE, "run", 2);
        x.dueChannels(1, 0, 0, 0, 0, 0);
        x.dueTasks(1, 3, 0);
        x.due(0, "variable", 0);
        x.due(ChannelMachine.MORE, "run", 1);
        x.dueChannels(0, 0, 0, 0, 0, 0);
        x.due(7, "variable", 0);
        x.dueTasks(2, 3, 0);
        x.due(ChannelMachine.ENDED, "run", 9);
        x.dueBox(2, 3, 1);
    }

    private static void outputFirst() {
        Checks x = Checks.program("{(D!b+7O!1)(D?aO!2O!3)}", 8);
        x.due(ChannelMachine.MORE, "run", 2);
        x.dueChannels(0, 0, 0, 2, 0, 0);
        x.due(0, "set", 1, 50);
        x.due(ChannelMachine.MORE, "run", 1);
        x.due(7, "variable", 0);
        x.dueChannels(0, 0, 0, 0, 0, 0);
        x.dueTasks(2, 3, 0);
        x.due(ChannelMachine.ENDED, "run", 9);
        x.dueBox(2, 3, 1);
    }

    private static void dueClash(String text, int acts) {
        Checks x = new Checks();
        x.typeText(text);
        x.answer("load");
        x.due(ChannelMachine.MORE, "run", acts - 1);
        x.due(1, "count", 7);
        x.due(Checks.STATE, "run", 1);
        x.due(acts, "count", 4);
        x.due(3, "count", 7);
        x.dueTasks(0, 0, 0);
        x.dueChannels(0, 0, 0, 0, 0, 0);
        x.due(Checks.STATE, "run", 1);
        x.due(Checks.STATE, "give", 1);
    }

    private static void clashes() {
        dueClash("{A?aA?b}", 3);
        dueClash("{D?aD?b}", 3);
        dueClash("{I?aI?b}", 3);
        dueClash("{A!1A!2}", 3);
        dueClash("{D!1{D!2}}", 4);
        dueClash("(^a<8,(a:a+1O!a){O!1O!2})", 28);
        Checks x = Checks.program("{A!1B!2A?aB?b}", 5);
        x.due(ChannelMachine.ENDED, "run", 5);
        x.dueVariables(1, 2);
    }

    private static void outputToTheBox() {
        Checks x = Checks.program("(^a<8,(a:a+1O!a)b:1O!a+1b:2)", 8);
        x.due(ChannelMachine.HOST, "run", 200);
        x.due(8, "count", 6);
        x.dueChannels(0, 0, 0, 0, 0, 2);
        x.dueVariables(8, 1);
        x.dueTasks(0, 1, 0);
        x.due(ChannelMachine.HOST, "run", 200);
        x.due(1, "take");
        x.due(8, "count", 6);
        x.dueTasks(1, 1, 0);
        x.due(ChannelMachine.ENDED, "run", 1);
        x.due(2, "variable", 1);
        x.dueBox(2, 3, 4, 5, 6, 7, 8, 9);
    }

    private static void inputOfGifts() {
        Checks x = Checks.program("(I?aI?bI?c)", 4);
        x.due(1, "give", -7);
        x.due(2, "give", 8);
        x.due(ChannelMachine.MORE, "run", 1);
        x.dueVariables(-7, 0, 0);
        x.due(1, "count", 5);
        x.due(ChannelMachine.HOST, "run", 9);
        x.dueVariables(-7, 8, 0);
        x.due(0, "count", 5);
        x.dueChannels(0, 0, 0, 0, 1, 0);
    }

    private static void firstReadyGuard() {
        Checks x = Checks.program("{A!1B!2[1&C?a,O!5 1&B?b,O!6 1&A?c,O!7 1&.,O!8]}".replace(" ", ""), 8);
        x.due(ChannelMachine.MORE, "run", 4);
        x.dueVariables(0, 2, 0);
        x.dueChannels(2, 0, 0, 0, 0, 0);
        x.dueTasks(2, 4, 0);
        x.due(ChannelMachine.MORE, "run", 1);
        x.dueTasks(0, 2, 0);
        x.due(6, "take");
        x.due(Checks.STATE, "run", 1);
        x.next("{[1&A?a,O!1a=0&.,O!2]A!9}", 5);
        x.due(ChannelMachine.MORE, "run", 3);
        x.due(2, "take");
        x.next("[1&A?a,a:1 1&I?b,c:b]".replace(" ", ""), 3);
        x.due(1, "give", 4);
        x.due(ChannelMachine.ENDED, "run", 2);
        x.dueVariables(0, 4, 4);
        x.due(0, "count", 5);
    }

    private static void closedGuards() {
        Checks x = Checks.program("{A!1[0&A?a,O!1b&.,O!2b=0&B?c,O!3]B!4}", 7);
        x.due(ChannelMachine.MORE, "run", 3);
        x.dueChannels(2, 1, 0, 0, 0, 0);
        x.due(ChannelMachine.MORE, "run", 2);
        x.due(4, "variable", 2);
        x.due(3, "take");
        x.next("[0&.,.0&A?a,.]", 3);
        x.due(ChannelMachine.MORE, "run", 1);
        x.dueChannels(0, 0, 0, 0, 0, 0);
        x.dueTasks(0, 1, 0);
        x.due(Checks.STATE, "run", 1);
        x.next("[-1&.,a:3]", 2);
        x.due(ChannelMachine.ENDED, "run", 2);
        x.due(3, "variable", 0);
    }

    private static void waitingAtSeveralChannels() {
        Checks x = Checks.program("{([1&A?a,O!1 1&B?b,O!2 1&I?c,O!3]O!4)(@1B!9A!8)}".replace(" ", ""), 11);
        x.due(ChannelMachine.MORE, "run", 2);
        x.dueChannels(1, 1, 0, 0, 1, 0);
        x.due(ChannelMachine.MORE, "run", 2);
        x.dueVariables(0, 9, 0);
        x.dueChannels(0, 0, 0, 0, 0, 0);
        x.due(ChannelMachine.MORE, "run", 1);
        x.dueChannels(2, 0, 0, 0, 0, 0);
        x.due(Checks.STATE, "run", 9);
        x.dueBox(2, 4);
        x.next("[1&A?a,O!1 1&I?c,(O!c.)]".replace(" ", ""), 5);
        x.due(ChannelMachine.HOST, "run", 9);
        x.dueChannels(1, 0, 0, 0, 1, 0);
        x.due(0, "give", 6);
        x.dueChannels(0, 0, 0, 0, 0, 0);
        x.dueTasks(1, 1, 0);
        x.due(1, "give", 7);
        x.due(ChannelMachine.ENDED, "run", 9);
        x.dueBox(6);
        x.due(1, "count", 5);
    }

    private static void firstGuardOfAChannel() {
        Checks x = Checks.program("{[0&A?a,O!1 1&A?b,O!2 1&A?c,O!3]A!5}".replace(" ", ""), 6);
        x.due(ChannelMachine.ENDED, "run", 9);
        x.dueVariables(0, 5, 0);
        x.dueBox(2);
        x.next("{A!5[1&A?b,O!2 1&A?c,O!3]}".replace(" ", ""), 5);
        x.due(ChannelMachine.ENDED, "run", 9);
        x.dueVariables(0, 5, 0);
        x.dueBox(2);
    }

    private static void clashOfAlternatives() {
        dueClash("{[1&A?a,.]A?b}", 3);
        dueClash("{A?b[1&B?a,.1&A?a,.]}", 3);
        dueClash("{[1&I?a,.1&B?a,.]I?b}", 3);
        dueClash("{[1&A?a,.][1&A?b,.]}", 3);
        Checks x = Checks.program("{A?b[1&B?a,.0&A?a,.]}", 5);
        x.due(ChannelMachine.MORE, "run", 3);
        x.dueChannels(1, 1, 0, 0, 0, 0);
        x.due(Checks.STATE, "run", 1);
        x.due(3, "count", 4);
    }
}
