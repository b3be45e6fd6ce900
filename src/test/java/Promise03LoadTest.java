/** Promise 3: load reads the text as a program, or tells the place where that ends. */
public final class Promise03LoadTest {
    public static void main(String[] args) {
        processesAreCounted();
        wrongBeginnings();
        wrongExpressions();
        wrongParts();
        wrongGuards();
        depthOfUnarys();
        depthOfProcesses();
        numberOfParts();
        expressionOrNextGuard();
        severalReadings();
        textIsEmptyThen();
        oldProgramStays();
        newProgramStartsAnew();
        Checks.end();
    }

    private static void processesAreCounted() {
        Checks x = new Checks();
        x.next("a:1", 1);
        x.next("O!a", 1);
        x.next("I?f", 1);
        x.next("D?a", 1);
        x.next("D!a", 1);
        x.next(".", 1);
        x.next("#", 1);
        x.next("()", 1);
        x.next("{}", 1);
        x.next("[]", 1);
        x.next("@1", 1);
        x.next("^1,.", 2);
        x.next("?1,.,#", 3);
        x.next("[1&A?a,.1&.,(..)]", 5);
        x.next("({[1&I?a,{..}]^1,?1,.,.}())", 11);
        x.next("a:1+2*3-4/5%6<(7=-8)", 1);
        x.next("(((((?1,(),{})))))", 8);
        x.due(-1, "count", 0);
    }

    private static void wrongBeginnings() {
        Checks.unreadable("", 0);
        for (String one : new String[] {"x", "g", "E", "H", "1", "-", "!", ":", ",", "&", ")", "}", "]",
            "<", "=", "+", "*", "/", "%", "~", "\"", "_"}) {
            Checks.unreadable(one, 0);
            Checks.unreadable("(" + one.replace(")", "]"), 1);
        }
        Checks.unreadable("a", 1);
        Checks.unreadable("a=1", 1);
        Checks.unreadable("A", 1);
        Checks.unreadable("A:1", 1);
        Checks.unreadable("AA", 1);
        Checks.unreadable("I!1", 1);
        Checks.unreadable("O?a", 1);
        Checks.unreadable("I?", 2);
        Checks.unreadable("I?g", 2);
        Checks.unreadable("A?1", 2);
        Checks.unreadable("..", 1);
        Checks.unreadable("a:1a:2", 3);
        Checks.unreadable("a:1)", 3);
    }

    private static void wrongExpressions() {
        Checks.unreadable("a:", 2);
        Checks.unreadable("@", 1);
        Checks.unreadable("O!", 2);
        Checks.unreadable("a:+1", 2);
        Checks.unreadable("a:A", 2);
        Checks.unreadable("a:g", 2);
        Checks.unreadable("a:1+", 4);
        Checks.unreadable("a:1++1", 4);
        Checks.unreadable("a:1*)", 4);
        Checks.unreadable("a:()", 3);
        Checks.unreadable("a:(1", 4);
        Checks.unreadable("a:(1]", 4);
        Checks.unreadable("a:1<2<3", 5);
        Checks.unreadable("a:1=2<3", 5);
        Checks.unreadable("a:(1<2=3)", 6);
        Checks.unreadable("a:1234", 5);
        Checks.unreadable("a:bc", 3);
        Checks.unreadable("a:1b", 3);
        Checks x = new Checks();
        x.next("a:123", 1);
        x.next("a:(1<2)<(2=3)", 1);
        x.next("a:000", 1);
    }

    private static void wrongParts() {
        Checks.unreadable("(", 1);
        Checks.unreadable("(.", 2);
        Checks.unreadable("(}", 1);
        Checks.unreadable("{.)", 2);
        Checks.unreadable("[)", 1);
        Checks.unreadable("^", 1);
        Checks.unreadable("^1", 2);
        Checks.unreadable("^1.", 2);
        Checks.unreadable("^1,", 3);
        Checks.unreadable("^,.", 1);
        Checks.unreadable("?1,.", 4);
        Checks.unreadable("?1,..", 4);
        Checks.unreadable("?1,.,", 5);
        Checks.unreadable("?1,.,.,", 6);
    }

    private static void wrongGuards() {
        Checks.unreadable("[", 1);
        Checks.unreadable("[1", 2);
        Checks.unreadable("[1,.]", 2);
        Checks.unreadable("[&.,.]", 1);
        Checks.unreadable("[1&", 3);
        Checks.unreadable("[1&O?a,.]", 3);
        Checks.unreadable("[1&a:1,.]", 3);
        Checks.unreadable("[1&#,.]", 3);
        Checks.unreadable("[1&A!1,.]", 4);
        Checks.unreadable("[1&A?,.]", 5);
        Checks.unreadable("[1&A?a.]", 6);
        Checks.unreadable("[1&.]", 4);
        Checks.unreadable("[1&.,]", 5);
        Checks.unreadable("[1&.,.", 6);
        Checks.unreadable("[1&.,..]", 6);
    }

    private static void depthOfUnarys() {
        Checks x = new Checks();
        x.next("a:----1", 1);
        x.next("a:((((1))))", 1);
        x.next("a:-(-(1))+((-(1)))", 1);
        Checks.unreadable("a:-----1", 6);
        Checks.unreadable("a:(((((1)))))", 6);
        Checks.unreadable("a:-(-(-1)))", 6);
        Checks.unreadable("a:1+-----1", 8);
        Checks.unreadable("[((((-1))))&.,.]", 5);
    }

    private static void depthOfProcesses() {
        Checks x = new Checks();
        x.next("((((((()))))))", 7);
        x.next("(((((({}))))))", 7);
        x.next("(((((([]))))))", 7);
        x.next("((((((a:1))))))", 7);
        x.next("^1,^1,^1,^1,^1,^1,.", 7);
        Checks.unreadable("(((((((.)))))))", 7);
        Checks.unreadable("((((((((", 7);
        Checks.unreadable("(((((({.", 7);
        Checks.unreadable("(((((([1", 7);
        Checks.unreadable("(((((([-", 7);
        Checks.unreadable("(((((((}", 7);
        Checks.unreadable("((((((^1,.", 6);
        Checks.unreadable("((((((?", 6);
        Checks.unreadable("^1,^1,^1,^1,^1,^1,^1,.", 18);
        Checks.unreadable("(((((?1,^1,.,.)))))", 8);
        Checks.unreadable("(((((?1,.,?1,.,.)))))", 10);
        Checks.unreadable("(((((([1&.,.]))))))", 7);
        Checks.unreadable("((((([1&.,^1,.])))))", 10);
    }

    private static void numberOfParts() {
        Checks x = new Checks();
        x.next("{....}", 5);
        x.next("(.....)", 6);
        x.next("[1&.,.1&.,.1&.,.1&.,.]", 5);
        Checks.unreadable("{.....}", 5);
        Checks.unreadable("{a:1b:2c:3d:4e:5}", 13);
        Checks.unreadable("[1&.,.1&.,.1&.,.1&.,.1&.,.]", 21);
        Checks.unreadable("[1&.,.1&.,.1&.,.1&.,@1-1&.,.]", 24);
    }

    /** A digit or - behind a PROCESS that ends with an EXPRESSION may begin the next GUARD. */
    private static void expressionOrNextGuard() {
        dueChoice("[0&.,a:51&.,a:7]", 3, 7);
        dueChoice("[0&.,a:5-1&.,a:7]", 3, 7);
        dueChoice("[1&.,a:5-1&.,a:7]", 3, 5);
        dueChoice("[1&.,a:9-(2)]", 2, 7);
        dueChoice("[0&.,a:1<2-3<4&.,a:7]", 3, 7);
        dueChoice("[0&.,^1,a:5-1&.,a:7]", 4, 7);
        dueChoice("[0&.,?1,.,a:5-1&.,a:7]", 5, 7);
        dueChoice("[0&.,a:5(1)&.,a:7]", 3, 7);
        dueChoice("[0&.,a:1b=0&.,a:7]", 3, 7);
        Checks.unreadable("[0&.,a:51,", 9);
        Checks.unreadable("[0&.,a:5-1&", 11);
        Checks.unreadable("[0&.,a:1<2<3&.,.]", 10);
        Checks.unreadable("[0&.,a:1<2-3<4]", 14);
        Checks.unreadable("[0&.,(a:5-1&.,.)]", 11);
        Checks.unreadable("[0&.,?1,a:5-1&.,.]", 13);
    }

    /** The document asks that such a text is read; which of its readings it is is told in README.md. */
    private static void severalReadings() {
        dueChoice("[1&.,a:1234&.,a:7]", 3, 123);
        dueChoice("[1&.,a:123&.,a:7]", 3, 12);
        dueChoice("[1&.,a:9-2-3&.,a:7]", 3, 7);
    }

    private static void dueChoice(String text, int processes, int a) {
        Checks x = Checks.program(text, processes);
        x.answer("run", 2);
        x.due(a, "variable", 0);
    }

    private static void textIsEmptyThen() {
        Checks x = new Checks();
        x.typeText("a:1");
        x.due(1, "load");
        x.due(0, "type", 0);
        x.due(Checks.BAD, "load");
        x.due(0, "count", 0);
        x.typeText("a:");
        x.due(Checks.BAD, "load");
        x.due(0, "type", 0);
        x.due(2, "count", 0);
    }

    private static void oldProgramStays() {
        Checks x = Checks.program("(a:5O!6I?bI?cO!b+c)", 6);
        x.due(ChannelMachine.HOST, "run", 9);
        x.due(0, "give", 30);
        x.due(1, "give", 12);
        x.typeText("(.");
        x.due(Checks.BAD, "load");
        int[] counts = {2, 0, 1, 1, 3, 1, 1, 1, 0};
        for (int i = 0; i < counts.length; i++) {
            x.due(counts[i], "count", i);
        }
        x.dueVariables(5, 30);
        x.due(ChannelMachine.ENDED, "run", 9);
        x.dueBox(6, 42);
        x.typeText("!");
        x.due(Checks.BAD, "load");
        x.due(2, "count", 7);
        x.due(0, "count", 0);
    }

    private static void newProgramStartsAnew() {
        Checks x = Checks.program("(a:5O!6@7{A?aI?bC!1})", 8);
        x.due(ChannelMachine.MORE, "run", 5);
        x.due(1, "give", 1);
        x.due(2, "give", 2);
        x.due(7, "count", 1);
        x.dueChannels(1, 0, 0, 0, 0, 0);
        x.next("#", 1);
        int[] counts = {-1, 0, 1, 1, 0, 0, 0, 1, 0};
        for (int i = 0; i < counts.length; i++) {
            x.due(counts[i], "count", i);
        }
        x.dueVariables(0, 0, 0, 0, 0, 0);
        x.dueChannels(0, 0, 0, 0, 0, 0);
        x.dueBox();
        x.due(Checks.STATE, "run", 2);
        x.due(3, "count", 7);
        x.next("a:1", 1);
        x.due(1, "count", 7);
        x.due(ChannelMachine.ENDED, "run", 1);
        x.next("@9", 1);
        x.due(ChannelMachine.MORE, "run", 1);
        x.due(1, "count", 8);
        x.next("b:1", 1);
        x.due(0, "count", 8);
        x.due(ChannelMachine.ENDED, "run", 1);
    }
}
