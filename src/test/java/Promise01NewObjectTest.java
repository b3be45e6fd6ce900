/** Promise 1: no text, no program, variables and time 0, no gifts, an empty box. */
public final class Promise01NewObjectTest {
    public static void main(String[] args) {
        Checks x = new Checks();
        int[] counts = {-1, 0, 0, 0, 0, 0, 0, 0, 0};
        for (int i = 0; i < counts.length; i++) {
            x.due(counts[i], "count", i);
        }
        x.dueVariables(0, 0, 0, 0, 0, 0);
        x.dueChannels(0, 0, 0, 0, 0, 0);
        x.dueBox();
        x.due(Checks.STATE, "run", 1);
        x.due(Checks.STATE, "give", 1);
        x.due(0, "type", 0);
        x.due(Checks.BAD, "load");
        x.due(0, "count", 0);
        constants();
        Checks.end();
    }

    private static void constants() {
        if (ChannelMachine.ENDED != 0 || ChannelMachine.MORE != 1 || ChannelMachine.HOST != 2) {
            Checks.fault("the constants are not 0, 1 and 2");
        }
    }
}
