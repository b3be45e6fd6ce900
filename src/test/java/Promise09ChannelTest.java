/** Promise 9: who waits at a channel. */
public final class Promise09ChannelTest {
    public static void main(String[] args) {
        Checks x = new Checks();
        x.dueChannels(0, 0, 0, 0, 0, 0);
        int[] wrong = {-1, 6, Integer.MIN_VALUE, Integer.MAX_VALUE};
        for (int c : wrong) {
            x.due(Checks.BAD, "channel", c);
        }
        x.next("{A?aB!1{C?bD!2}I?c}", 7);
        x.due(ChannelMachine.HOST, "run", 9);
        x.dueChannels(1, 2, 1, 2, 1, 0);
        x.due(0, "give", 1);
        x.dueChannels(1, 2, 1, 2, 0, 0);
        x.due(Checks.STATE, "run", 9);
        x.dueChannels(0, 0, 0, 0, 0, 0);
        x.next("{^1,O!1[1&D?a,.1&I?a,.0&B?a,.]}", 7);
        x.due(ChannelMachine.HOST, "run", 99);
        x.dueChannels(0, 0, 0, 1, 1, 2);
        x.due(1, "take");
        x.dueChannels(0, 0, 0, 1, 1, 0);
        for (int c : wrong) {
            x.due(Checks.BAD, "channel", c);
        }
        x.next("A?a", 1);
        x.due(ChannelMachine.MORE, "run", 1);
        x.due(1, "channel", 0);
        x.next("B?a", 1);
        x.due(0, "channel", 0);
        Checks.end();
    }
}
