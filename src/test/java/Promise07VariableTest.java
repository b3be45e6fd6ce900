/** Promise 7: the value of a variable. */
public final class Promise07VariableTest {
    public static void main(String[] args) {
        Checks x = Checks.program("(a:1b:2c:3d:4e:5f:6)", 7);
        x.dueVariables(0, 0, 0, 0, 0, 0);
        x.due(ChannelMachine.MORE, "run", 3);
        x.dueVariables(1, 2, 3, 0, 0, 0);
        x.due(ChannelMachine.ENDED, "run", 3);
        x.dueVariables(1, 2, 3, 4, 5, 6);
        int[] wrong = {-1, 6, 7, Integer.MIN_VALUE, Integer.MAX_VALUE};
        for (int v : wrong) {
            x.due(Checks.BAD, "variable", v);
        }
        x.next("(f:8#)", 3);
        x.due(Checks.STATE, "run", 3);
        x.dueVariables(0, 0, 0, 0, 0, 8);
        Checks.end();
    }
}
