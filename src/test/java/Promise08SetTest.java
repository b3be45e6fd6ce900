/** Promise 8: the host sets a variable, with or without a program. */
public final class Promise08SetTest {
    public static void main(String[] args) {
        Checks x = new Checks();
        for (int v = 0; v < 6; v++) {
            x.due(0, "set", v, 10 + v);
        }
        x.dueVariables(10, 11, 12, 13, 14, 15);
        int[] wrong = {-1, 6, Integer.MIN_VALUE, Integer.MAX_VALUE};
        for (int v : wrong) {
            x.due(Checks.BAD, "set", v, 5);
        }
        x.dueVariables(10, 11, 12, 13, 14, 15);
        x.typeText("!");
        x.due(Checks.BAD, "load");
        x.dueVariables(10, 11, 12, 13, 14, 15);
        x.next("(a:1a:a+b)", 3);
        x.dueVariables(0, 0, 0, 0, 0, 0);
        x.due(ChannelMachine.MORE, "run", 1);
        x.due(0, "set", 0, Integer.MAX_VALUE);
        x.due(0, "set", 1, 1);
        x.due(ChannelMachine.ENDED, "run", 1);
        x.due(Integer.MIN_VALUE, "variable", 0);
        x.due(0, "set", 0, -3);
        x.due(-3, "variable", 0);
        x.due(2, "count", 7);
        x.next("#", 1);
        x.due(Checks.STATE, "run", 3);
        x.due(0, "set", 5, 4);
        x.due(4, "variable", 5);
        Checks.end();
    }
}
