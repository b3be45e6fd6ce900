/** The sentences of "Terms" on TEXT and grammar that name a boundary case, each with a test of its own. */
public final class BoundaryGrammarTest {
    public static void main(String[] args) {
        textOfSeventyTwo();
        oneToThreeDigits();
        unarysFiveDeep();
        intsWrap();
        divisionTowardsZero();
        divisionByZero();
        outputNotOnI();
        inputNotOnO();
        parallelOfFour();
        alternativeOfFour();
        processesSevenDeep();
        anyNumberOfTimes();
        mayBeMissing();
        Checks.end();
    }

    private static void readable(String text, int processes) {
        Checks.program(text, processes);
    }

    private static void dueValue(int due, String expression, int b, int c) {
        Checks x = Checks.program("a:" + expression, 1);
        x.due(0, "set", 1, b);
        x.due(0, "set", 2, c);
        x.due(ChannelMachine.ENDED, "run", 1);
        x.due(due, "variable", 0);
    }

    /** "TEXT: at most 72 characters." */
    private static void textOfSeventyTwo() {
        Checks x = Checks.program("(" + ".".repeat(69) + ")", 70);
        x.next("(" + ".".repeat(70) + ")", 71);
        x.due(ChannelMachine.MORE, "run", 69);
        x.due(ChannelMachine.ENDED, "run", 1);
        x.next("a:" + "1+".repeat(34) + "12", 1);
        x.due(ChannelMachine.ENDED, "run", 1);
        x.due(46, "variable", 0);
        x.typeText("(" + ".".repeat(71));
        x.due(Checks.STATE, "type", ')');
        x.due(Checks.BAD, "load");
        x.due(72, "count", 0);
    }

    /** "one to three digits" */
    private static void oneToThreeDigits() {
        dueValue(9, "9", 0, 0);
        dueValue(99, "99", 0, 0);
        dueValue(999, "999", 0, 0);
        dueValue(0, "000", 0, 0);
        dueValue(-999, "-999", 0, 0);
        Checks.unreadable("a:", 2);
        Checks.unreadable("a:1000", 5);
        Checks.unreadable("a:0001", 5);
        Checks.unreadable("a:-1000", 6);
        Checks.unreadable("a:(1000)", 6);
        Checks.unreadable("a:1+1000", 7);
        Checks.unreadable("^1000,.", 4);
        Checks.unreadable("?1000,.,.", 4);
        Checks.unreadable("@1000", 4);
        Checks.unreadable("O!1000", 5);
        Checks.unreadable("[1000&.,.]", 4);
        Checks.unreadable("[1&.,.1000&.,.]", 9);
    }

    /** "UNARYS stand at most 5 deep in one another." */
    private static void unarysFiveDeep() {
        dueValue(1, "----1", 0, 0);
        dueValue(7, "((((b))))", 7, 0);
        dueValue(-3, "(-((3)))", 0, 0);
        dueValue(8, "----4*----2", 0, 0);
        dueValue(6, "((((1))))+((((2))))+((((3))))", 0, 0);
        Checks.unreadable("a:-----1", 6);
        Checks.unreadable("a:-----b", 6);
        Checks.unreadable("a:(((((1)))))", 6);
        Checks.unreadable("a:----(1)", 6);
        Checks.unreadable("a:((((-1))))", 6);
        Checks.unreadable("a:-(-(-1))", 6);
        Checks.unreadable("a:1*-----1", 8);
        Checks.unreadable("a:1<(2+(3*(4-(5=(6)))))", 16);
        Checks.unreadable("^-----1,.", 5);
        Checks.unreadable("[1&.,.(((((1)))))&.,.]", 10);
    }

    /** "ints wrapping" */
    private static void intsWrap() {
        int most = Integer.MAX_VALUE;
        int least = Integer.MIN_VALUE;
        dueValue(least, "b+1", most, 0);
        dueValue(most, "b-1", least, 0);
        dueValue(least, "-b", least, 0);
        dueValue(-most, "-b", most, 0);
        dueValue(0, "b*2", least, 0);
        dueValue(1, "b*b", most, 0);
        dueValue(0, "b*c", 65536, 65536);
        dueValue(-2, "b+c", most, most);
        dueValue(1, "b+1<b", most, 0);
        dueValue(1, "-b=b", least, 0);
        Checks x = Checks.program("a:" + "999*".repeat(17) + "9", 1);
        x.due(ChannelMachine.ENDED, "run", 1);
        int due = 9;
        for (int i = 0; i < 17; i++) {
            due *= 999;
        }
        x.due(due, "variable", 0);
    }

    /** "/ and % towards zero": also of the least int, whose quotient by -1 wraps. */
    private static void divisionTowardsZero() {
        int least = Integer.MIN_VALUE;
        int[] b = {7, -7, 7, -7, 1, -1, 0, least, least, least, least};
        int[] c = {2, 2, -2, -2, 2, 2, -3, 1, -1, 2, least};
        for (int i = 0; i < b.length; i++) {
            long quotient = Math.abs((long) b[i]) / Math.abs((long) c[i]);
            long due = b[i] < 0 == c[i] < 0 ? quotient : -quotient;
            dueValue((int) due, "b/c", b[i], c[i]);
            dueValue((int) (b[i] - due * c[i]), "b%c", b[i], c[i]);
        }
    }

    /** "by 0: ArithmeticException", wherever an EXPRESSION stands and however deep the 0 is. */
    private static void divisionByZero() {
        for (String zero : new String[] {"1/0", "1%0", "0/0", "0%0", "1/b", "b/b", "1/-0", "1/(1-1)", "1+2*(3%(b))",
            "0*(1/0)", "1/(1<0)", "5%000"}) {
            for (String text : new String[] {"a:E", "O!E", "A!E", "@E", "^E,.", "?E,.,.", "[E&.,.]", "[E&A?a,.]",
                "[1&.,.E&.,.]"}) {
                Checks x = new Checks();
                x.typeText(text.replace("E", zero));
                x.answer("load");
                x.due(Checks.ARITHMETIC, "run", 1);
                x.due(3, "count", 7);
                x.due(1, "count", 4);
            }
        }
        Checks x = Checks.program("(?1,a:1,a:1/0O!2/1)", 5);
        x.due(ChannelMachine.ENDED, "run", 9);
        x.due(1, "variable", 0);
    }

    /** "an OUTPUT (not on I)" */
    private static void outputNotOnI() {
        for (String name : new String[] {"A", "B", "C", "D", "O"}) {
            readable(name + "!1", 1);
        }
        Checks.unreadable("I!1", 1);
        Checks.unreadable("(.I!1)", 3);
        Checks.unreadable("E!1", 0);
        Checks.unreadable("H!1", 0);
        Checks.unreadable("[1&A!1,.]", 4);
        Checks.unreadable("[1&I!1,.]", 4);
    }

    /** "an INPUT (not on O)" */
    private static void inputNotOnO() {
        for (String name : new String[] {"A", "B", "C", "D", "I"}) {
            readable(name + "?a", 1);
            readable(name + "?f", 1);
            readable("[1&" + name + "?a,.]", 2);
            Checks.unreadable(name + "?g", 2);
            Checks.unreadable(name + "?1", 2);
            Checks.unreadable(name + "?", 2);
        }
        Checks.unreadable("O?a", 1);
        Checks.unreadable("{O?a}", 2);
        Checks.unreadable("[1&O?a,.]", 3);
        Checks.unreadable("E?a", 0);
    }

    /** "PARALLEL, of at most 4" */
    private static void parallelOfFour() {
        readable("{...}", 4);
        readable("{....}", 5);
        readable("{{....}{....}{....}{....}}", 21);
        readable("{(.....)}", 7);
        Checks.unreadable("{.....}", 5);
        Checks.unreadable("{....", 5);
        Checks.unreadable("{....)", 5);
        Checks.unreadable("{()()()()()}", 9);
        Checks.unreadable("{...{....}{}}", 10);
        Checks.unreadable("{...{.....}}", 9);
    }

    /** "an ALTERNATIVE, of at most 4" */
    private static void alternativeOfFour() {
        String guard = "1&.,.";
        readable("[" + guard.repeat(3) + "]", 4);
        readable("[" + guard.repeat(4) + "]", 5);
        readable("[" + guard.repeat(3) + "1&.,[" + guard.repeat(4) + "]]", 9);
        Checks.unreadable("[" + guard.repeat(5) + "]", 21);
        Checks.unreadable("[" + guard.repeat(4) + "a", 21);
        Checks.unreadable("[" + guard.repeat(4) + "-", 21);
        Checks.unreadable("[" + guard.repeat(4) + "(", 21);
        Checks.unreadable("[" + guard.repeat(4), 21);
        Checks.unreadable("[" + guard.repeat(3) + "1&.,a:12&.,.]", 24);
    }

    /** "PROCESSES stand at most 7 deep in one another (the outermost is at depth 1)." */
    private static void processesSevenDeep() {
        readable("(".repeat(6) + "." + ")".repeat(6), 7);
        readable("(".repeat(7) + ")".repeat(7), 7);
        readable("(".repeat(6) + "." + "{}[]#a:1O!1I?a@1()" + ")".repeat(6), 15);
        readable("{".repeat(6) + "." + "}".repeat(6), 7);
        readable("[1&.,".repeat(6) + "." + "]".repeat(6), 7);
        readable("^1,".repeat(6) + ".", 7);
        readable("?1,.,".repeat(6) + ".", 13);
        readable("?1,".repeat(6) + "." + ",.".repeat(6), 13);
        Checks.unreadable("(".repeat(7) + "." + ")".repeat(7), 7);
        Checks.unreadable("(".repeat(8) + ")".repeat(8), 7);
        Checks.unreadable("{".repeat(7) + "." + "}".repeat(7), 7);
        Checks.unreadable("[1&.,".repeat(7) + "." + "]".repeat(7), 31);
        Checks.unreadable("^1,".repeat(7) + ".", 18);
        Checks.unreadable("?1,.,".repeat(7) + ".", 30);
        Checks.unreadable("?1,".repeat(7) + "." + ",.".repeat(7), 18);
        Checks.unreadable("(".repeat(6) + "..^1,." + ")".repeat(6), 8);
        Checks.unreadable("(".repeat(7), 7);
    }

    /** "x* means any number of times": none as well, and as many as the text has room for. */
    private static void anyNumberOfTimes() {
        readable("()", 1);
        readable("{}", 1);
        readable("[]", 1);
        readable("({}[]())", 4);
        readable("(" + "()".repeat(35) + ")", 36);
        dueValue(1, "1", 0, 0);
        dueValue(35, "1" + "+1".repeat(34), 0, 0);
        dueValue(-33, "1" + "-1".repeat(34), 0, 0);
        dueValue(1, "1" + "*1".repeat(34), 0, 0);
        dueValue(0, "0" + "/1".repeat(34), 0, 0);
        dueValue(1, "1" + "%2".repeat(34), 0, 0);
    }

    /** "x? that it may be missing": one comparison or none, never two. */
    private static void mayBeMissing() {
        dueValue(1, "1<2", 0, 0);
        dueValue(1, "(1<2)=1", 0, 0);
        Checks.unreadable("a:1<", 4);
        Checks.unreadable("a:1<2=", 5);
        Checks.unreadable("a:1<2<3", 5);
        Checks.unreadable("a:(1=2=3)", 6);
    }
}
