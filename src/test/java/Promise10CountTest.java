/** Promise 10: what count tells. */
public final class Promise10CountTest {
    public static void main(String[] args) {
        unknownOnes();
        place();
        all();
        overAndBroken();
        overWhenLoaded();
        Checks.end();
    }

    private static void dueCounts(Checks x, int... due) {
        for (int i = 0; i < due.length; i++) {
            x.due(due[i], "count", i);
        }
    }

    private static void unknownOnes() {
        Checks x = new Checks();
        int[] unknown = {-1, 9, 10, Integer.MIN_VALUE, Integer.MAX_VALUE};
        for (int what : unknown) {
            x.due(-1, "count", what);
        }
    }

    private static void place() {
        Checks x = new Checks();
        x.due(-1, "count", 0);
        x.next(".", 1);
        x.due(-1, "count", 0);
        x.typeText("(((");
        x.due(Checks.BAD, "load");
        x.due(3, "count", 0);
        x.next(".", 1);
        x.due(3, "count", 0);
        x.typeText("a:(((1!");
        x.due(Checks.BAD, "load");
        x.due(6, "count", 0);
        x.due(Checks.BAD, "load");
        x.due(0, "count", 0);
    }

    private static void all() {
        Checks x = Checks.program("{(@3O!1)(@5O!2)A?a(.A?b)}", 11);
        dueCounts(x, -1, 0, 1, 1, 0, 0, 0, 1, 0);
        x.due(ChannelMachine.MORE, "run", 1);
        dueCounts(x, -1, 0, 4, 5, 1, 0, 0, 1, 0);
        x.due(ChannelMachine.MORE, "run", 2);
        dueCounts(x, -1, 0, 2, 5, 3, 0, 0, 1, 2);
        x.due(1, "give", 5);
        x.due(2, "give", 5);
        x.due(ChannelMachine.MORE, "run", 2);
        dueCounts(x, -1, 0, 1, 5, 5, 2, 0, 1, 2);
        x.due(Checks.STATE, "run", 200);
        dueCounts(x, -1, 0, 0, 0, 6, 2, 0, 3, 0);
        x.next("{(@3O!1)(@5O!2)}", 7);
        dueCounts(x, -1, 0, 1, 1, 0, 0, 0, 1, 0);
        x.due(ChannelMachine.MORE, "run", 4);
        dueCounts(x, -1, 3, 0, 2, 4, 0, 1, 1, 1);
        x.due(ChannelMachine.ENDED, "run", 4);
        dueCounts(x, -1, 5, 0, 0, 5, 0, 2, 2, 0);
    }

    private static void overAndBroken() {
        Checks x = Checks.program("{(@3a:1/0)@9I?a#}", 7);
        x.due(ChannelMachine.MORE, "run", 5);
        dueCounts(x, -1, 0, 0, 5, 5, 0, 0, 1, 2);
        x.due(Checks.ARITHMETIC, "run", 9);
        dueCounts(x, -1, 3, 0, 0, 6, 0, 0, 3, 0);
        x.next("(O!1O!2)", 3);
        x.due(1, "give", 5);
        x.due(ChannelMachine.ENDED, "run", 9);
        dueCounts(x, -1, 0, 0, 0, 2, 1, 2, 2, 0);
    }

    private static void overWhenLoaded() {
        Checks x = Checks.program("()", 1);
        dueCounts(x, -1, 0, 0, 0, 0, 0, 0, 2, 0);
        x.next("{(@3O!1)@9A?aB!1}", 7);
        dueCounts(x, -1, 0, 1, 1, 0, 0, 0, 1, 0);
        x.due(1, "give", 5);
        x.due(ChannelMachine.MORE, "run", 6);
        dueCounts(x, -1, 3, 0, 4, 6, 1, 1, 1, 1);
        x.dueChannels(1, 2, 0, 0, 0, 0);
        x.due(0, "set", 0, 7);
        x.next("(()())", 3);
        dueCounts(x, -1, 0, 0, 0, 0, 0, 0, 2, 0);
        x.dueChannels(0, 0, 0, 0, 0, 0);
        x.dueVariables(0, 0, 0, 0, 0, 0);
        x.dueBox();
        x.typeText("(");
        x.due(Checks.BAD, "load");
        dueCounts(x, 1, 0, 0, 0, 0, 0, 0, 2, 0);
        x.next("(().)", 3);
        dueCounts(x, 1, 0, 1, 1, 0, 0, 0, 1, 0);
    }
}
