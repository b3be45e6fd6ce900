/** Promise 11: time is not bounded; count tells its lowest 32 bits. */
public final class Promise11TimeWithoutBoundTest {
    public static void main(String[] args) {
        Checks x = Checks.program("^1,(@aI?b)", 4);
        x.due(0, "set", 0, Integer.MAX_VALUE);
        int time = 0;
        for (int i = 0; i < 9; i++) {
            x.due(ChannelMachine.HOST, "run", 50);
            time += Integer.MAX_VALUE;
            x.due(time, "count", 1);
            x.due(0, "give", i);
        }
        orderBeyondThirtyTwoBits();
        Checks.end();
    }

    private static void orderBeyondThirtyTwoBits() {
        Checks x = Checks.program("(@a{(@aO!1)(@2O!2)})", 9);
        x.due(0, "set", 0, Integer.MAX_VALUE);
        x.due(ChannelMachine.ENDED, "run", 50);
        x.due(-2, "count", 1);
        x.dueBox(2, 1);
        x.next("(@a@a@a{(@1O!1)(@3O!2)(@2O!3)})", 14);
        x.due(0, "set", 0, Integer.MAX_VALUE);
        x.due(ChannelMachine.ENDED, "run", 50);
        x.dueBox(1, 3, 2);
        x.due((int) (3L * Integer.MAX_VALUE + 3), "count", 1);
    }
}
