/** Promise 4: the values of expressions in a run. */
public final class Promise04ExpressionsTest {
    public static void main(String[] args) {
        operators();
        order();
        wrapping();
        divisionByZero();
        Checks.end();
    }

    private static void dueValue(int due, String expression) {
        dueValue(due, expression, 0, 0);
    }

    private static void dueValue(int due, String expression, int b, int c) {
        Checks x = Checks.program("a:" + expression, 1);
        x.due(0, "set", 1, b);
        x.due(0, "set", 2, c);
        x.due(ChannelMachine.ENDED, "run", 1);
        x.due(due, "variable", 0);
    }

    private static void operators() {
        dueValue(999, "999");
        dueValue(7, "007");
        dueValue(5, "2+3");
        dueValue(-1, "2-3");
        dueValue(6, "2*3");
        dueValue(2, "8/3");
        dueValue(2, "8%3");
        dueValue(1, "2<3");
        dueValue(0, "3<3");
        dueValue(0, "4<3");
        dueValue(1, "3=3");
        dueValue(0, "3=4");
        dueValue(-5, "-5");
        dueValue(5, "--5");
        dueValue(-5, "---5");
        dueValue(-2, "-8/3");
        dueValue(-2, "8/-3");
        dueValue(2, "-8/-3");
        dueValue(-2, "-8%3");
        dueValue(2, "8%-3");
        dueValue(-2, "-8%-3");
        dueValue(11, "b*c+b", 1, 10);
    }

    private static void order() {
        dueValue(7, "1+2*3");
        dueValue(9, "(1+2)*3");
        dueValue(-4, "1-2-3");
        dueValue(2, "1-(2-3)");
        dueValue(2, "100/10/5");
        dueValue(50, "100/(10/5)");
        dueValue(3, "7%4*1");
        dueValue(21, "7/2*7");
        dueValue(1, "1+1<2+1");
        dueValue(0, "5-3=3-2");
        dueValue(1, "(1<2)=(3<4)");
        dueValue(-6, "-2*3");
        dueValue(-1, "-(3-2)");
        dueValue(5, "2--3");
    }

    private static void wrapping() {
        int most = Integer.MAX_VALUE;
        int least = Integer.MIN_VALUE;
        dueValue(least, "b+1", most, 0);
        dueValue(most, "b-1", least, 0);
        dueValue(least, "-b", least, 0);
        dueValue(1, "b*c", most, most);
        dueValue(-2, "b*2", most, 0);
        dueValue(least, "b/c", least, -1);
        dueValue(0, "b%c", least, -1);
        dueValue(1, "b<c", least, most);
        dueValue(0, "b<c", most, least);
    }

    private static void divisionByZero() {
        String[] texts = {"a:1/0", "a:1%b", "O!1/0", "A!1%0", "^0/b,.", "?1/b,.,.", "@1/0", "[1/0&.,.]",
            "[1&.,.1/0&.,.]", "[0&.,.0&A?a,.1&.,.1%b&I?a,.]"};
        for (String text : texts) {
            Checks x = new Checks();
            x.typeText(text);
            x.answer("load");
            x.due(Checks.ARITHMETIC, "run", 5);
            x.due(3, "count", 7);
            x.due(1, "count", 4);
            x.dueTasks(0, 0, 0);
            x.dueBox();
            x.due(Checks.STATE, "run", 5);
            x.due(Checks.STATE, "give", 5);
        }
        Checks x = Checks.program("{(b:3O!4a:1/0)A?c@5}", 7);
        x.due(ChannelMachine.MORE, "run", 1);
        x.due(ChannelMachine.MORE, "run", 2);
        x.due(Checks.ARITHMETIC, "run", 200);
        x.dueVariables(0, 3, 0);
        x.due(4, "count", 4);
        x.dueChannels(0, 0, 0, 0, 0, 0);
        x.dueBox(4);
    }
}
