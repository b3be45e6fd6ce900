/** Promise 2: type adds characters to the text, or none of them. */
public final class Promise02TypeTest {
    public static void main(String[] args) {
        ordinary();
        zerosAreLeftOut();
        wrongCharacters();
        noRoom();
        textStaysBetweenCalls();
        Checks.end();
    }

    private static void ordinary() {
        Checks x = new Checks();
        x.due(8, "type", Checks.eightOf("(a:12b:3", 0));
        x.due(9, "type", Checks.eightOf(")", 0));
        x.due(3, "load");
        x.due(ChannelMachine.ENDED, "run", 9);
        x.dueVariables(12, 3, 0, 0, 0, 0);
    }

    private static void zerosAreLeftOut() {
        Checks x = new Checks();
        x.due(0, "type", 0);
        x.due(1, "type", 0x6100000000000000L);
        x.due(3, "type", 0x00003A0000310000L);
        x.due(5, "type", 0x3200000000000033L);
        x.due(1, "load");
        x.due(ChannelMachine.ENDED, "run", 1);
        x.due(123, "variable", 0);
    }

    private static void wrongCharacters() {
        Checks x = new Checks();
        long[] wrong = {1, 32, 127, 128, 255, -1, 0x2000000000000000L, 0x7F00000000000000L,
            Long.MIN_VALUE, 0x6100000000000020L, 0x4141412041414141L};
        for (long eight : wrong) {
            x.due(Checks.BAD, "type", eight);
        }
        x.due(0, "type", 0);
        x.due(1, "type", 33);
        x.due(2, "type", 126);
        x.due(Checks.BAD, "type", 32);
        x.due(2, "type", 0);
    }

    private static void noRoom() {
        Checks x = new Checks();
        for (int i = 1; i <= 8; i++) {
            x.due(8 * i, "type", Checks.eightOf("AAAAAAAA", 0));
        }
        x.due(71, "type", Checks.eightOf("AAAAAAA", 0));
        x.due(Checks.STATE, "type", Checks.eightOf("AA", 0));
        x.due(71, "type", 0);
        x.due(Checks.BAD, "type", 0x4141414141414120L);
        x.due(72, "type", 65);
        x.due(72, "type", 0);
        x.due(Checks.STATE, "type", 65);
        x.due(Checks.BAD, "type", 32);
        x.due(72, "type", 0);
        x.due(Checks.BAD, "load");
        x.due(0, "type", 0);
    }

    private static void textStaysBetweenCalls() {
        Checks x = Checks.program("(I?aI?b)", 3);
        x.due(2, "type", Checks.eightOf("c:", 0));
        x.due(ChannelMachine.HOST, "run", 3);
        x.due(0, "give", 4);
        x.due(3, "type", Checks.eightOf("7", 0));
        x.due(1, "load");
        x.due(ChannelMachine.ENDED, "run", 3);
        x.dueVariables(0, 0, 7);
    }
}
