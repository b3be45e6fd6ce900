/** The sentences of promises 2 to 11 that name a boundary case, each with a test of its own. */
public final class BoundaryPromisesTest {
    private static final int LEAST = Integer.MIN_VALUE;
    private static final int MOST = Integer.MAX_VALUE;

    public static void main(String[] args) {
        zerosLeftOut();
        charactersOutOfRange();
        noRoomInTheText();
        badComesBeforeNoRoom();
        emptyThenInAnyCase();
        firstCharacterOfNoProgram();
        justTheEndIsWrong();
        oldProgramStays();
        guardsAreNoProcesses();
        oneToTwoHundredActs();
        noProgramToRun();
        eightGifts();
        noProgramToGive();
        emptyBox();
        waitingOutputGoesIn();
        variablesInRange();
        variablesToSetInRange();
        channelsInRange();
        noPlaceYet();
        actThatBrokeIt();
        otherCounts();
        noTasksWithoutAProgram();
        timeIsNotBounded();
        Checks.end();
    }

    private static Checks waiting(String text, int processes) {
        Checks x = Checks.program(text, processes);
        x.due(ChannelMachine.HOST, "run", 200);
        return x;
    }

    /** A machine whose program is over. */
    private static Checks over() {
        Checks x = Checks.program(".", 1);
        x.due(ChannelMachine.ENDED, "run", 1);
        return x;
    }

    /** Machines whose program is BROKEN: by a DEADLOCK, a CLASH, an ArithmeticException. */
    private static Checks[] broken() {
        Checks[] all = {Checks.program("#", 1), Checks.program("{A?aA?b}", 3), Checks.program("a:1/0", 1)};
        all[0].due(Checks.STATE, "run", 9);
        all[1].due(Checks.STATE, "run", 9);
        all[2].due(Checks.ARITHMETIC, "run", 9);
        return all;
    }

    /** Promise 2: "the eight bytes of the number, highest first, those that are 0 left out" */
    private static void zerosLeftOut() {
        for (int place = 0; place < 8; place++) {
            Checks x = new Checks();
            x.due(0, "type", 0);
            x.due(1, "type", (long) '.' << 8 * place);
            x.due(1, "load");
        }
        Checks x = new Checks();
        x.due(4, "type", 0x6100_3A00_3100_3200L);
        x.due(5, "type", 0x0000_0000_3300_0000L);
        x.due(1, "load");
        x.due(ChannelMachine.ENDED, "run", 1);
        x.due(123, "variable", 0);
    }

    /** Promise 2: "One not 33 .. 126: bad; .. then none is added": each byte, in each of the eight places. */
    private static void charactersOutOfRange() {
        for (int one = 1; one < 256; one++) {
            boolean isRight = one >= 33 && one <= 126;
            for (int place = 0; place < 8; place++) {
                Checks x = new Checks();
                long eight = 0x2E2E2E2E2E2E2E2EL & ~(255L << 8 * place) | (long) one << 8 * place;
                x.due(isRight ? "8" : Checks.BAD, "type", eight);
                x.due(isRight ? 8 : 0, "type", 0);
                x.due(isRight ? "9" : Checks.BAD, "type", (long) one << 8 * place);
            }
        }
    }

    private static Checks typed(int length) {
        Checks x = new Checks();
        x.typeText("(" + ".".repeat(length - 1));
        x.due(length, "type", 0);
        return x;
    }

    /** Promise 2: "more than 72 in all: no room; then none is added" */
    private static void noRoomInTheText() {
        for (int length = 64; length <= 72; length++) {
            for (int more = 0; more <= 8; more++) {
                Checks x = typed(length);
                boolean isRoom = length + more <= 72;
                long eight = Checks.eightOf(")".repeat(more), 0);
                x.due(isRoom ? String.valueOf(length + more) : Checks.STATE, "type", eight);
                x.due(isRoom ? length + more : length, "type", 0);
            }
        }
        Checks x = typed(71);
        x.due(Checks.STATE, "type", Checks.eightOf(".)", 0));
        x.due(72, "type", ')');
        x.due(71, "load");
    }

    /** "it comes after Bad": of both at once it's bad. */
    private static void badComesBeforeNoRoom() {
        Checks x = typed(72);
        x.due(Checks.STATE, "type", '.');
        x.due(Checks.BAD, "type", ' ');
        x.due(Checks.BAD, "type", 0x2E2E2E2E2E2E2E7FL);
        x.due(Checks.BAD, "type", 0x802E2E2E2E2E2E2EL);
        x.due(72, "type", 0);
        Checks none = new Checks();
        none.due(Checks.BAD, "run", 0);
        none.due(Checks.STATE, "run", 1);
    }

    /** Promise 3: "Reads the text, which is empty then in any case": the empty text too. */
    private static void emptyThenInAnyCase() {
        Checks x = new Checks();
        x.due(Checks.BAD, "load");
        x.due(0, "count", 0);
        x.due(0, "type", 0);
        x.typeText("(a:1");
        x.due(Checks.BAD, "load");
        x.due(0, "type", 0);
        x.due(Checks.BAD, "load");
        x.due(0, "count", 0);
        x.next("a:1", 1);
        x.due(0, "type", 0);
        x.due(Checks.BAD, "load");
        x.due(0, "count", 0);
        x.due(1, "count", 7);
    }

    /** Promise 3: "the first character with which, after those before, no program could begin" */
    private static void firstCharacterOfNoProgram() {
        Checks.unreadable("~", 0);
        Checks.unreadable(".~~~", 1);
        Checks.unreadable("(a:1b:2~c:)", 7);
        Checks.unreadable("(" + ".".repeat(70) + "]", 71);
        Checks.unreadable("." + ".".repeat(71), 1);
        Checks.unreadable("((((((^", 6);
        Checks.unreadable("((((((?", 6);
        Checks.unreadable("(((((([1", 7);
        Checks.unreadable("{....#", 5);
        Checks.unreadable("a:----(", 6);
        Checks.unreadable("[1&.,a:1-2,", 10);
        Checks.unreadable("[1&.,a:1-2&]", 11);
        Checks.unreadable("[1&.,a:12,", 9);
        Checks.unreadable("[1&.,a:1234]", 11);
        Checks.unreadable("[1&.,(a:1234", 11);
        Checks.unreadable("[1&.,a:1<2-3<4]", 14);
    }

    /** Promise 3: "or its length, if just the end is wrong": each beginning of a program that is none. */
    private static void justTheEndIsWrong() {
        String[] programs = {"(a:12O!(b+1)I?c)", "{.#()}", "^a<3,a:a+1", "?a,.,#", "@(-1)", "[1&A?a,.-1&.,@1]",
            "((((((()))))))", "[1&.,a:5-1&.,a:(7)]"};
        int[] leastWhole = {16, 6, 8, 6, 5, 16, 14, 19};
        for (int i = 0; i < programs.length; i++) {
            for (int length = 0; length < leastWhole[i]; length++) {
                Checks.unreadable(programs[i].substring(0, length), length);
            }
            Checks x = new Checks();
            x.typeText(programs[i]);
            x.answer("load");
            x.due(-1, "count", 0);
        }
    }

    /** Promise 3: "the old program stays", as do VARIABLES, TIME, gifts and box; no program stays none. */
    private static void oldProgramStays() {
        Checks none = new Checks();
        none.due(0, "set", 2, 5);
        none.due(Checks.BAD, "load");
        none.due(0, "count", 7);
        none.due(5, "variable", 2);
        Checks x = Checks.program("{(@3O!1)(I?aI?bb:b+a)}", 8);
        x.due(ChannelMachine.HOST, "run", 9);
        x.due(0, "give", 4);
        x.due(1, "give", 5);
        x.typeText("{(@3O!1)(I?aI?bb:b+a)}}");
        x.due(Checks.BAD, "load");
        int[] counts = {22, 3, 1, 2, 4, 1, 1, 1, 0};
        for (int i = 0; i < counts.length; i++) {
            x.due(counts[i], "count", i);
        }
        x.due(ChannelMachine.ENDED, "run", 2);
        x.dueVariables(4, 9);
        x.typeText("x");
        x.due(Checks.BAD, "load");
        x.due(2, "count", 7);
        x.dueBox(1);
        for (Checks one : broken()) {
            one.due(Checks.BAD, "load");
            one.due(3, "count", 7);
        }
    }

    /** Promise 3: "those of GUARDS too (INPUT and . before the comma aren't ones)" */
    private static void guardsAreNoProcesses() {
        Checks x = new Checks();
        x.next("[]", 1);
        x.next("[1&.,.]", 2);
        x.next("[1&I?a,I?b]", 2);
        x.next("[1&A?a,.1&.,.1&B?b,[]1&.,[1&.,()]]", 6);
    }

    /** Promise 4: "at most n ACTS (1 .. 200)" */
    private static void oneToTwoHundredActs() {
        Checks x = Checks.program("^1,.", 2);
        for (int n : new int[] {LEAST, -200, -1, 0, 201, 202, 256 + 1, 65536 + 1, MOST}) {
            x.due(Checks.BAD, "run", n);
            x.due(0, "count", 4);
        }
        int acts = 0;
        for (int n : new int[] {1, 2, 199, 200}) {
            x.due(ChannelMachine.MORE, "run", n);
            acts += n;
            x.due(acts, "count", 4);
        }
    }

    /** Promise 4: "No program, BROKEN or over: IllegalStateException", but after Bad. */
    private static void noProgramToRun() {
        Checks[] broken = broken();
        Checks[] all = {new Checks(), over(), Checks.program("()", 1), broken[0], broken[1], broken[2]};
        for (Checks x : all) {
            String acts = x.answer("count", 4);
            String state = x.answer("count", 7);
            x.due(Checks.STATE, "run", 1);
            x.due(Checks.STATE, "run", 200);
            x.due(Checks.BAD, "run", 0);
            x.due(Checks.BAD, "run", 201);
            x.due(acts, "count", 4);
            x.due(state, "count", 7);
        }
    }

    /** Promise 5: "(8 at most)": more have no room, and a refused one is lost. */
    private static void eightGifts() {
        Checks x = Checks.program("^1,(I?aO!a)", 4);
        for (int i = 1; i <= 8; i++) {
            x.due(i, "give", i);
        }
        x.due(Checks.STATE, "give", 99);
        x.due(Checks.STATE, "give", 98);
        x.due(8, "count", 5);
        x.due(1, "count", 7);
        x.due(ChannelMachine.MORE, "run", 3);
        x.due(7, "count", 5);
        x.due(8, "give", 9);
        x.due(Checks.STATE, "give", 97);
        x.due(1, "take");
        x.due(ChannelMachine.HOST, "run", 200);
        x.due(0, "count", 5);
        x.due(0, "give", 10);
        x.due(1, "give", 11);
        x.dueBox(2, 3, 4, 5, 6, 7, 8, 9);
    }

    /** Promise 5: "No program, or BROKEN or over: IllegalStateException"; the gifts stay as they are. */
    private static void noProgramToGive() {
        Checks[] broken = broken();
        Checks[] all = {new Checks(), over(), Checks.program("()", 1), broken[0], broken[1], broken[2]};
        for (Checks x : all) {
            x.due(Checks.STATE, "give", 1);
            x.due(0, "count", 5);
        }
        Checks x = Checks.program(".", 1);
        x.due(1, "give", 1);
        x.due(2, "give", 2);
        x.due(ChannelMachine.ENDED, "run", 1);
        x.due(Checks.STATE, "give", 3);
        x.due(2, "count", 5);
        x.next("#", 1);
        x.due(0, "count", 5);
        x.due(1, "give", 1);
        x.due(Checks.STATE, "run", 2);
        x.due(Checks.STATE, "give", 2);
        x.due(1, "count", 5);
    }

    /** Promise 6: "The box is empty: NoSuchElementException", with and without a program. */
    private static void emptyBox() {
        Checks[] broken = broken();
        Checks[] all = {new Checks(), over(), waiting("I?a", 1), broken[0], broken[1], broken[2]};
        for (Checks x : all) {
            x.due(Checks.NO_ELEMENT, "take");
            x.due(Checks.NO_ELEMENT, "take");
            x.due(0, "count", 6);
        }
        Checks x = Checks.program("(O!1O!2)", 3);
        x.due(ChannelMachine.ENDED, "run", 2);
        x.dueBox(1, 2);
    }

    /** Promise 6: "if a task of a program to be run WAITS at O its value goes in then": not of a BROKEN one. */
    private static void waitingOutputGoesIn() {
        Checks x = waiting("{^a<10,(a:a+1O!a)(I?bb:1/0)}", 8);
        x.due(2, "channel", 5);
        x.dueTasks(0, 3, 0);
        x.due(1, "take");
        x.due(8, "count", 6);
        x.due(0, "channel", 5);
        x.dueTasks(1, 3, 0);
        x.due(ChannelMachine.HOST, "run", 200);
        x.due(2, "channel", 5);
        x.due(0, "give", 1);
        x.due(Checks.ARITHMETIC, "run", 1);
        x.due(0, "channel", 5);
        x.due(2, "take");
        x.due(7, "count", 6);
        x.dueTasks(0, 0, 0);
        x.dueBox(3, 4, 5, 6, 7, 8, 9);
        Checks seven = Checks.program("^a<10,(a:a+1O!a)", 4);
        seven.due(ChannelMachine.MORE, "run", 24);
        seven.due(1, "take");
        seven.due(7, "count", 6);
    }

    /** Promise 7: "The VARIABLE (0 a .. 5 f)." */
    private static void variablesInRange() {
        Checks x = Checks.program("(a:1b:2c:3d:4e:5f:6)", 7);
        x.due(ChannelMachine.ENDED, "run", 6);
        x.dueVariables(1, 2, 3, 4, 5, 6);
        for (int v : new int[] {LEAST, -1, 6, 7, 256, MOST}) {
            x.due(Checks.BAD, "variable", v);
        }
    }

    /** Promise 8, of the same: a refused one sets nothing. */
    private static void variablesToSetInRange() {
        Checks x = new Checks();
        int[] values = {LEAST, -1, 0, 1, MOST, 77};
        for (int v = 0; v < 6; v++) {
            x.due(0, "set", v, values[v]);
        }
        for (int v : new int[] {LEAST, -1, 6, 7, 256, MOST}) {
            x.due(Checks.BAD, "set", v, 5);
        }
        x.dueVariables(values);
    }

    /** Promise 9: "Of channel c (0 A .. 3 D, 4 I, 5 O)" */
    private static void channelsInRange() {
        String[] waiters = {"A?a", "B?a", "C?a", "D?a", "I?a", "A!1", "B!1", "C!1", "D!1"};
        for (int i = 0; i < waiters.length; i++) {
            Checks x = Checks.program(waiters[i], 1);
            x.due(ChannelMachine.MORE, "run", 1);
            int[] due = new int[6];
            due[i % 5] = i < 5 ? 1 : 2;
            x.dueChannels(due);
        }
        Checks x = waiting("^1,O!1", 2);
        x.dueChannels(0, 0, 0, 0, 0, 2);
        for (int c : new int[] {LEAST, -1, 6, 7, 256, MOST}) {
            x.due(Checks.BAD, "channel", c);
        }
    }

    /** Promise 10: "THE PLACE of the latest text that couldn't be read, -1 if there was none (0)" */
    private static void noPlaceYet() {
        Checks x = new Checks();
        x.due(-1, "count", 0);
        x.next(".", 1);
        x.due(-1, "count", 0);
        x.typeText("a:1+");
        x.due(Checks.BAD, "load");
        x.due(4, "count", 0);
        x.next(".", 1);
        x.due(4, "count", 0);
        x.due(Checks.BAD, "load");
        x.due(0, "count", 0);
        x.due(Checks.BAD, "type", 1);
        x.due(0, "count", 0);
    }

    /** Promise 10: "ACTS done by this program, one that broke it too (4)" */
    private static void actThatBrokeIt() {
        Checks x = Checks.program("(..a:1/0)", 4);
        x.due(Checks.ARITHMETIC, "run", 9);
        x.due(3, "count", 4);
        x.next("{D?aD?b}", 3);
        x.due(0, "count", 4);
        x.due(Checks.STATE, "run", 9);
        x.due(3, "count", 4);
        x.next("(.#)", 3);
        x.due(Checks.STATE, "run", 9);
        x.due(2, "count", 4);
        x.due(Checks.STATE, "run", 9);
        x.due(2, "count", 4);
        x.next(".", 1);
        x.due(0, "count", 4);
    }

    /** Promise 10: "else -1" */
    private static void otherCounts() {
        Checks[] all = {new Checks(), over(), waiting("I?a", 1), broken()[0]};
        for (Checks x : all) {
            for (int what : new int[] {LEAST, -2, -1, 9, 10, 256, MOST}) {
                x.due(-1, "count", what);
            }
        }
    }

    /** Promise 10: "(2), (3) and (8) are 0 without a program to be run." */
    private static void noTasksWithoutAProgram() {
        new Checks().dueTasks(0, 0, 0);
        over().dueTasks(0, 0, 0);
        Checks.program("()", 1).dueTasks(0, 0, 0);
        for (Checks x : broken()) {
            x.dueTasks(0, 0, 0);
        }
        Checks x = Checks.program("{@9(^1,.)(.a:1/0)#}", 9);
        x.due(ChannelMachine.MORE, "run", 5);
        x.dueTasks(3, 5, 1);
        x.due(Checks.ARITHMETIC, "run", 9);
        x.dueTasks(0, 0, 0);
        x.next(".", 1);
        x.dueTasks(1, 1, 0);
    }

    /** Promise 11: "TIME is not bounded; count(1) tells its lowest 32 bits, as an int." */
    private static void timeIsNotBounded() {
        Checks x = Checks.program("^1,(@a)", 3);
        x.due(0, "set", 0, MOST);
        long time = 0;
        int delays = 0;
        for (int i = 0; i < 40; i++) {
            x.due(ChannelMachine.MORE, "run", 200);
            delays += 100;
            time = (delays - 1L) * MOST;
            x.due((int) time, "count", 1);
            x.dueTasks(0, 1, 1);
        }
        dueOrder("(@a-4{(@9O!1)(@3O!2)})", 9, MOST + 5L);
        dueOrder("(@a@a{(@5O!1)(@1O!2)})", 10, 2L * MOST + 5);
        dueOrder("(@a@a@2{(@aO!1)(@a-1O!2)})", 11, 3L * MOST + 2);
    }

    /** The shorter delay ends first, though the lowest 32 bits wrap between the two. */
    private static void dueOrder(String text, int processes, long time) {
        Checks x = Checks.program(text, processes);
        x.due(0, "set", 0, MOST);
        x.due(ChannelMachine.ENDED, "run", 20);
        x.due((int) time, "count", 1);
        x.dueBox(2, 1);
    }
}
