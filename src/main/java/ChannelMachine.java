import java.util.ArrayList;
import java.util.Arrays;
import java.util.List;
import java.util.NoSuchElementException;

/** A machine of processes that talk by channels: it reads a program from text and runs it act by act. */
public final class ChannelMachine {
    public static final int ENDED = 0;
    public static final int MORE = 1;
    public static final int HOST = 2;

    private static final int BYTES = 8;
    private static final int TEXT_MOST = 72;
    private static final int FIRST_CHARACTER = 33;
    private static final int LAST_CHARACTER = 126;
    private static final int DIGITS_MOST = 3;
    private static final int UNARY_DEPTH = 5;
    private static final int PROCESS_DEPTH = 7;
    private static final int PARTS_MOST = 4;
    private static final int ROW_MOST = 8;
    private static final int ACTS_MOST = 200;
    private static final int VARIABLES = 6;
    private static final int CHANNELS = 6;
    private static final int FROM_HOST = 4;
    private static final int TO_HOST = 5;
    private static final int NONE = -1;

    // What count(7) tells.
    private static final int NO_PROGRAM = 0;
    private static final int TO_BE_RUN = 1;
    private static final int OVER = 2;
    private static final int BROKEN = 3;

    // What a task comes to next.
    private static final int ACT = 0;
    private static final int YIELD = 1;
    private static final int END = 2;

    // An expression's code, operands before operators: a number is itself, a variable VARIABLE_CODE
    // and more, a binary operator its character below zero.
    private static final int VARIABLE_CODE = 1000;
    private static final int NEGATE = -1;
    private static final int[] NO_CODE = {};

    // The levels at which operators join; a UNARY stands at the last.
    private static final int COMPARISON = 0;
    private static final int SUM = 1;
    private static final int PRODUCT = 2;
    private static final int UNARY = 3;

    // Far above what the limits of text and acts allow; it only makes the end of a loop plain.
    private static final int FAR = 1000000;

    private final Reader reader = new Reader();
    private final Machine machine = new Machine();
    private int place = NONE;

    public ChannelMachine() {
    }

    public int type(long eight) throws IllegalArgumentException, IllegalStateException {
        int added = 0;
        for (int i = 0; i < BYTES; i++) {
            int one = byteAt(eight, i);
            if (one != 0 && (one < FIRST_CHARACTER || one > LAST_CHARACTER)) {
                throw new IllegalArgumentException("not a character of a text");
            }
            added += one == 0 ? 0 : 1;
        }
        if (reader.length + added > TEXT_MOST) {
            throw new IllegalStateException("no room in the text");
        }
        for (int i = 0; i < BYTES; i++) {
            int one = byteAt(eight, i);
            if (one != 0) {
                reader.append((char) one);
            }
        }
        return reader.length;
    }

    private static int byteAt(long eight, int index) {
        return (int) (eight >>> 8 * (BYTES - 1 - index)) & 255;
    }

    public int load() throws IllegalArgumentException {
        reader.start();
        boolean isProgram = reader.process(null, 1, false) && reader.isAtEnd();
        reader.length = 0;
        if (!isProgram) {
            place = reader.place;
            throw new IllegalArgumentException("not a program");
        }
        machine.begin(reader.program.task);
        return reader.processes;
    }

    public int run(int n) throws IllegalArgumentException, IllegalStateException, ArithmeticException {
        if (n < 1 || n > ACTS_MOST) {
            throw new IllegalArgumentException("not a number of acts");
        }
        if (machine.state != TO_BE_RUN) {
            throw new IllegalStateException("no program to be run");
        }
        return machine.perform(n);
    }

    public int give(int value) throws IllegalStateException {
        if (machine.state != TO_BE_RUN) {
            throw new IllegalStateException("no program to be run");
        }
        if (machine.gifts.isFull()) {
            throw new IllegalStateException("no room for a gift");
        }
        machine.accept(value);
        return machine.gifts.size;
    }

    public int take() throws NoSuchElementException {
        if (machine.box.size == 0) {
            throw new NoSuchElementException("the box is empty");
        }
        return machine.handOut();
    }

    public int variable(int v) throws IllegalArgumentException {
        if (v < 0 || v >= VARIABLES) {
            throw new IllegalArgumentException("not a variable");
        }
        return machine.variables[v];
    }

    public void set(int v, int value) throws IllegalArgumentException {
        if (v < 0 || v >= VARIABLES) {
            throw new IllegalArgumentException("not a variable");
        }
        machine.variables[v] = value;
    }

    public int channel(int c) throws IllegalArgumentException {
        if (c < 0 || c >= CHANNELS) {
            throw new IllegalArgumentException("not a channel");
        }
        Channel asked = machine.channels[c];
        if (asked.receiver != null) {
            return 1;
        }
        return asked.sender != null ? 2 : 0;
    }

    public int count(int what) {
        switch (what) {
            case 0: return place;
            case 1: return (int) machine.time;
            case 2: return machine.queue.size();
            case 3: return machine.tasks;
            case 4: return machine.acts;
            case 5: return machine.gifts.size;
            case 6: return machine.box.size;
            case 7: return machine.state;
            case 8: return machine.sleepers.size();
            default: return -1;
        }
    }

    private enum Kind {
        ASSIGNMENT, OUTPUT, INPUT, NOTHING, STOP, SEQUENCE, PARALLEL, LOOP, CONDITION, DELAY, ALTERNATIVE
    }

    /** A PROCESS of the program, linked with those in it. */
    private static final class Process {
        private final Kind kind;
        private final Process parent;
        private Process first = null;
        private Process last = null;
        private Process next = null;
        private Task task = null;
        private Guard guards = null;
        private int[] code = NO_CODE;
        private int channel = NONE;
        private int variable = NONE;

        Process(Kind kind, Process parent) {
            this.kind = kind;
            this.parent = parent;
        }
    }

    /** A GUARD of an ALTERNATIVE; its channel is NONE if it has the dot in place of an INPUT. */
    private static final class Guard {
        private int[] code = NO_CODE;
        private int channel = NONE;
        private int variable = NONE;
        private Process follow = null;
        private Guard next = null;
        private boolean isOpen = false;
    }

    /**
     * A task. There is one for the program and one for each PROCESS of a PARALLEL, made when the
     * program is read: as a PARALLEL waits for its tasks, none of them is needed twice at a time.
     */
    private static final class Task {
        private final Process whole;
        private final Task maker;
        private Process at;
        private boolean isBehind = false;
        private int running = 0;
        private int value = 0;
        private long until = 0;

        Task(Process whole, Task maker) {
            this.whole = whole;
            this.maker = maker;
            this.at = whole;
        }

        void enter(Process process) {
            at = process;
            isBehind = false;
        }

        void goOn() {
            isBehind = true;
        }

        /** Goes to where the next ACT stands, or to a YIELD or the END if that comes before it. */
        int findNext() {
            for (int i = 0; i < FAR; i++) {
                if (!isBehind) {
                    if (at.kind != Kind.SEQUENCE) {
                        return ACT;
                    }
                    if (at.first == null) {
                        isBehind = true;
                    } else {
                        at = at.first;
                    }
                } else if (at == whole || at.parent == null) {
                    return END;
                } else if (at.parent.kind == Kind.LOOP) {
                    enter(at.parent);
                    return YIELD;
                } else if (at.parent.kind == Kind.SEQUENCE && at.next != null) {
                    enter(at.next);
                } else {
                    at = at.parent;
                }
            }
            return END;
        }
    }

    /** Who WAITS at a channel; follow is the PROCESS behind the receiver's GUARD, if it has one. */
    private static final class Channel {
        private Task sender = null;
        private Task receiver = null;
        private int variable = NONE;
        private Process follow = null;
    }

    /** A row of at most eight values, first in, first out. */
    private static final class Row {
        private final int[] values = new int[ROW_MOST];
        private int size = 0;

        boolean isFull() {
            return size >= ROW_MOST;
        }

        void addLast(int value) {
            if (size < ROW_MOST) {
                values[size] = value;
                size++;
            }
        }

        int removeFirst() {
            if (size == 0) {
                return 0;
            }
            int first = values[0];
            size--;
            System.arraycopy(values, 1, values, 0, size);
            return first;
        }
    }

    /** Holds the text and reads it as a program; a method that reads answers whether that was there. */
    private static final class Reader {
        private final char[] text = new char[TEXT_MOST];
        private final int[] code = new int[TEXT_MOST];
        private int length = 0;
        private int codeLength = 0;
        private int limit = 0;
        private int at = 0;
        private int place = 0;
        private int processes = 0;
        private Process program = null;

        void append(char one) {
            if (length < TEXT_MOST) {
                text[length] = one;
                length++;
            }
        }

        void start() {
            limit = length;
            at = 0;
            place = 0;
            processes = 0;
        }

        boolean isAtEnd() {
            return at == length || refuse();
        }

        /** The next character, or 0 behind the last one. */
        private char look() {
            return at < limit && at < TEXT_MOST ? text[at] : 0;
        }

        private char lookBehindNext() {
            return at + 1 < limit && at + 1 < TEXT_MOST ? text[at + 1] : 0;
        }

        /** The place is the farthest one refused: a reading that came less far was not the only one. */
        private boolean refuse() {
            place = Math.max(place, at);
            return false;
        }

        private boolean expect(char due) {
            if (look() != due) {
                return refuse();
            }
            at++;
            return true;
        }

        /** Reads the ? and the VARIABLE of an INPUT; answers which one, or NONE. */
        private int inputVariable() {
            if (!expect('?')) {
                return NONE;
            }
            char name = look();
            if (!isVariable(name)) {
                refuse();
                return NONE;
            }
            at++;
            return name - 'a';
        }

        private static boolean isDigit(char c) {
            return c >= '0' && c <= '9';
        }

        private static boolean isVariable(char c) {
            return c >= 'a' && c <= 'f';
        }

        private static int channelOf(char c) {
            if (c == 'I') {
                return FROM_HOST;
            }
            if (c == 'O') {
                return TO_HOST;
            }
            return c >= 'A' && c <= 'D' ? c - 'A' : NONE;
        }

        private boolean process(Process parent, int depth, boolean guardMayFollow) {
            Process process = depth > PROCESS_DEPTH ? null : begin(parent, depth);
            if (process == null) {
                return refuse();
            }
            switch (process.kind) {
                case ASSIGNMENT:
                    return expect(':') && lastExpression(process, endOfLast(guardMayFollow));
                case OUTPUT:
                    return expect('!') && lastExpression(process, endOfLast(guardMayFollow));
                case DELAY:
                    return lastExpression(process, endOfLast(guardMayFollow));
                case INPUT:
                    process.variable = inputVariable();
                    return process.variable != NONE;
                case SEQUENCE:
                    return parts(process, depth, TEXT_MOST) && expect(')');
                case PARALLEL:
                    return parts(process, depth, PARTS_MOST) && expect('}');
                case ALTERNATIVE:
                    return guards(process, depth) && expect(']');
                case LOOP:
                    return condition(process) && process(process, depth + 1, guardMayFollow);
                case CONDITION:
                    return condition(process) && process(process, depth + 1, false)
                            && expect(',') && process(process, depth + 1, guardMayFollow);
                default:
                    return true;
            }
        }

        /** Reads the first character of a PROCESS; null if none begins with it here. */
        private Process begin(Process parent, int depth) {
            char first = look();
            Kind kind = kindOf(first, lookBehindNext());
            boolean needsPart = kind == Kind.LOOP || kind == Kind.CONDITION;
            if (kind == null || needsPart && depth == PROCESS_DEPTH) {
                return null;
            }
            Process process = added(kind, parent);
            process.channel = channelOf(first);
            if (kind == Kind.ASSIGNMENT) {
                process.variable = first - 'a';
            }
            at++;
            return process;
        }

        private static Kind kindOf(char first, char second) {
            switch (first) {
                case '.': return Kind.NOTHING;
                case '#': return Kind.STOP;
                case '(': return Kind.SEQUENCE;
                case '{': return Kind.PARALLEL;
                case '[': return Kind.ALTERNATIVE;
                case '^': return Kind.LOOP;
                case '?': return Kind.CONDITION;
                case '@': return Kind.DELAY;
                case 'O': return Kind.OUTPUT;
                case 'I': return Kind.INPUT;
                default: break;
            }
            if (isVariable(first)) {
                return Kind.ASSIGNMENT;
            }
            if (channelOf(first) == NONE) {
                return null;
            }
            return second == '!' ? Kind.OUTPUT : Kind.INPUT;
        }

        private Process added(Kind kind, Process parent) {
            Process process = new Process(kind, parent);
            processes++;
            if (parent == null) {
                program = process;
                process.task = new Task(process, null);
                return process;
            }
            boolean isOwnTask = parent.kind == Kind.PARALLEL;
            process.task = isOwnTask ? new Task(process, parent.task) : parent.task;
            if (parent.last == null) {
                parent.first = process;
            } else {
                parent.last.next = process;
            }
            parent.last = process;
            return process;
        }

        private static boolean isClosing(char c) {
            return c == ')' || c == '}' || c == ']';
        }

        private boolean parts(Process whole, int depth, int most) {
            for (int i = 0; i < most && !isClosing(look()); i++) {
                if (!process(whole, depth + 1, false)) {
                    return false;
                }
            }
            return true;
        }

        private boolean guards(Process alternative, int depth) {
            int room = depth < PROCESS_DEPTH ? PARTS_MOST : 0;
            Guard last = null;
            for (int i = 1; i <= room && !isClosing(look()); i++) {
                Guard guard = new Guard();
                if (!expression()) {
                    return false;
                }
                guard.code = codeRead();
                if (!expect('&') || !guardInput(guard) || !expect(',')
                        || !process(alternative, depth + 1, i < room)) {
                    return false;
                }
                guard.follow = alternative.last;
                if (last == null) {
                    alternative.guards = guard;
                } else {
                    last.next = guard;
                }
                last = guard;
            }
            return true;
        }

        private boolean guardInput(Guard guard) {
            char first = look();
            if (first == '.') {
                at++;
                return true;
            }
            guard.channel = channelOf(first);
            if (guard.channel == NONE || guard.channel == TO_HOST) {
                return refuse();
            }
            at++;
            guard.variable = inputVariable();
            return guard.variable != NONE;
        }

        private boolean condition(Process process) {
            if (!expression()) {
                return false;
            }
            process.code = codeRead();
            return expect(',');
        }

        /** The EXPRESSION with which a PROCESS ends, read no farther than end. */
        private boolean lastExpression(Process process, int end) {
            limit = end;
            boolean isThere = expression();
            limit = length;
            process.code = codeRead();
            return isThere;
        }

        /**
         * How far the last EXPRESSION of a PROCESS may be read. A digit or - in it may be where the
         * next GUARD begins, and only the & behind tells; the EXPRESSION is as long as it can be.
         */
        private int endOfLast(boolean guardMayFollow) {
            int begin = at;
            int end = length;
            for (int split = length - 1; guardMayFollow && split > begin && end == length; split--) {
                at = begin;
                limit = split;
                boolean isWhole = expression() && at == split;
                limit = length;
                if (isWhole && expression() && expect('&')) {
                    end = split;
                }
            }
            at = begin;
            return end;
        }

        private boolean expression() {
            codeLength = 0;
            return joined(COMPARISON, 1);
        }

        private int[] codeRead() {
            return Arrays.copyOf(code, codeLength);
        }

        private void write(int one) {
            if (codeLength < TEXT_MOST) {
                code[codeLength] = one;
                codeLength++;
            }
        }

        private static boolean isJoining(char c, int level) {
            switch (level) {
                case COMPARISON: return c == '<' || c == '=';
                case SUM: return c == '+' || c == '-';
                case PRODUCT: return c == '*' || c == '/' || c == '%';
                default: return false;
            }
        }

        private boolean joined(int level, int depth) {
            if (level >= UNARY) {
                return unary(depth);
            }
            if (!joined(level + 1, depth)) {
                return false;
            }
            int most = level == COMPARISON ? 1 : TEXT_MOST;
            for (int i = 0; i < most && isJoining(look(), level); i++) {
                char operator = look();
                at++;
                if (!joined(level + 1, depth)) {
                    return false;
                }
                write(-operator);
            }
            return true;
        }

        private boolean unary(int depth) {
            char first = look();
            int number = 0;
            for (int i = 0; i < DIGITS_MOST && isDigit(look()); i++) {
                number = number * 10 + look() - '0';
                at++;
            }
            if (isDigit(first)) {
                write(number);
                return true;
            }
            if (isVariable(first)) {
                write(VARIABLE_CODE + first - 'a');
                at++;
                return true;
            }
            if (depth >= UNARY_DEPTH || first != '-' && first != '(') {
                return refuse();
            }
            at++;
            if (first == '(') {
                return joined(COMPARISON, depth + 1) && expect(')');
            }
            if (!unary(depth + 1)) {
                return false;
            }
            write(NEGATE);
            return true;
        }
    }

    /** Runs a program: the CURRENT task is the first of the queue. */
    private static final class Machine {
        private final int[] variables = new int[VARIABLES];
        private final Channel[] channels = new Channel[CHANNELS];
        private final Row gifts = new Row();
        private final Row box = new Row();
        private final List<Task> queue = new ArrayList<>();
        private final List<Task> sleepers = new ArrayList<>();
        private final int[] stack = new int[TEXT_MOST];
        private int state = NO_PROGRAM;
        private int tasks = 0;
        private int acts = 0;
        private long time = 0;

        Machine() {
            for (int i = 0; i < CHANNELS; i++) {
                channels[i] = new Channel();
            }
        }

        void begin(Task main) {
            close(TO_BE_RUN);
            Arrays.fill(variables, 0);
            gifts.size = 0;
            box.size = 0;
            acts = 0;
            time = 0;
            if (!start(main)) {
                close(OVER);
            }
        }

        /** Puts a new task into the queue; one without any ACT has ENDED already and is put nowhere. */
        private boolean start(Task task) {
            task.enter(task.whole);
            if (task.findNext() != ACT) {
                return false;
            }
            tasks++;
            queue.add(task);
            return true;
        }

        private void close(int newState) {
            state = newState;
            tasks = 0;
            queue.clear();
            sleepers.clear();
            for (int i = 0; i < CHANNELS; i++) {
                channels[i].sender = null;
                channels[i].receiver = null;
            }
        }

        int perform(int most) {
            int last = acts + most;
            settle();
            for (int i = 0; i < FAR; i++) {
                if (state == OVER) {
                    return ENDED;
                }
                if (acts >= last) {
                    return MORE;
                }
                if (!queue.isEmpty()) {
                    act(queue.get(0));
                } else if (!sleepers.isEmpty()) {
                    growTime();
                } else if (isHostAwaited()) {
                    return HOST;
                } else {
                    close(BROKEN);
                    throw new IllegalStateException("deadlock");
                }
                settle();
            }
            return MORE;
        }

        private boolean isHostAwaited() {
            return channels[FROM_HOST].receiver != null || channels[TO_HOST].sender != null;
        }

        /** Lets tasks END and YIELD until the first of the queue stands before an ACT. */
        private void settle() {
            for (int i = 0; i < FAR && !queue.isEmpty(); i++) {
                Task current = queue.get(0);
                int next = current.findNext();
                if (next == ACT) {
                    return;
                }
                queue.remove(0);
                if (next == YIELD) {
                    queue.add(current);
                } else {
                    finish(current);
                }
            }
        }

        private void finish(Task task) {
            if (task.maker == null) {
                close(OVER);
                return;
            }
            tasks--;
            task.maker.running--;
            if (task.maker.running == 0) {
                resume(task.maker);
            }
        }

        /** The CURRENT task WAITS: whatever ends that puts it back into the queue. */
        private void pause() {
            if (!queue.isEmpty()) {
                queue.remove(0);
            }
        }

        private void resume(Task task) {
            task.goOn();
            queue.add(task);
        }

        private void growTime() {
            long least = sleepers.isEmpty() ? time : sleepers.get(0).until;
            for (int i = 0; i < sleepers.size(); i++) {
                least = Math.min(least, sleepers.get(i).until);
            }
            time = least;
            for (int i = 0; i < sleepers.size(); i++) {
                if (sleepers.get(i).until == time) {
                    resume(sleepers.get(i));
                }
            }
            for (int i = sleepers.size() - 1; i >= 0; i--) {
                if (sleepers.get(i).until == time) {
                    sleepers.remove(i);
                }
            }
        }

        private void act(Task task) {
            acts++;
            Process process = task.at;
            switch (process.kind) {
                case STOP:
                    pause();
                    break;
                case ASSIGNMENT:
                    assign(process.variable, evaluate(process.code));
                    task.goOn();
                    break;
                case CONDITION:
                    task.enter(evaluate(process.code) != 0 ? process.first : process.last);
                    break;
                case LOOP:
                    loop(task, process);
                    break;
                case PARALLEL:
                    makeTasks(task, process);
                    break;
                case OUTPUT:
                    output(task, process.channel, evaluate(process.code));
                    break;
                case INPUT:
                    input(task, process);
                    break;
                case ALTERNATIVE:
                    choose(task, process);
                    break;
                case DELAY:
                    delay(task, evaluate(process.code));
                    break;
                default:
                    task.goOn();
                    break;
            }
        }

        private void assign(int variable, int value) {
            if (variable >= 0 && variable < VARIABLES) {
                variables[variable] = value;
            }
        }

        private void loop(Task task, Process process) {
            if (evaluate(process.code) == 0) {
                task.goOn();
            } else {
                task.enter(process.first);
            }
        }

        private void makeTasks(Task task, Process parallel) {
            task.running = 0;
            for (Process part = parallel.first; part != null; part = part.next) {
                if (start(part.task)) {
                    task.running++;
                }
            }
            if (task.running == 0) {
                task.goOn();
            } else {
                pause();
            }
        }

        private void output(Task task, int number, int value) {
            Channel channel = channels[number];
            if (number == TO_HOST && !box.isFull()) {
                box.addLast(value);
                task.goOn();
            } else if (channel.receiver != null) {
                deliver(channel, value);
                task.goOn();
            } else if (channel.sender != null) {
                clash();
            } else {
                task.value = value;
                channel.sender = task;
                pause();
            }
        }

        private void input(Task task, Process process) {
            if (isReady(process.channel)) {
                assign(process.variable, fetched(process.channel));
                task.goOn();
            } else {
                await(task, process.channel, process.variable, null);
                pause();
            }
        }

        private boolean isReady(int number) {
            if (number == NONE) {
                return true;
            }
            return number == FROM_HOST ? gifts.size > 0 : channels[number].sender != null;
        }

        /** The value of a channel that is ready. */
        private int fetched(int number) {
            Task sender = channels[number].sender;
            if (number == FROM_HOST || sender == null) {
                return gifts.removeFirst();
            }
            channels[number].sender = null;
            resume(sender);
            return sender.value;
        }

        private void await(Task task, int number, int variable, Process follow) {
            Channel channel = channels[number];
            if (channel.receiver == null) {
                channel.receiver = task;
                channel.variable = variable;
                channel.follow = follow;
            } else if (channel.receiver != task) {
                clash();
            }
        }

        private void deliver(Channel channel, int value) {
            Task task = channel.receiver;
            Process follow = channel.follow;
            assign(channel.variable, value);
            for (int i = 0; i < CHANNELS; i++) {
                if (channels[i].receiver == task) {
                    channels[i].receiver = null;
                }
            }
            if (follow == null) {
                task.goOn();
            } else {
                task.enter(follow);
            }
            queue.add(task);
        }

        private void clash() {
            close(BROKEN);
            throw new IllegalStateException("clash");
        }

        private void delay(Task task, int duration) {
            if (duration > 0) {
                task.until = time + duration;
                sleepers.add(task);
                pause();
            } else {
                task.goOn();
            }
        }

        private void choose(Task task, Process alternative) {
            for (Guard guard = alternative.guards; guard != null; guard = guard.next) {
                guard.isOpen = evaluate(guard.code) != 0;
            }
            for (Guard guard = alternative.guards; guard != null; guard = guard.next) {
                if (guard.isOpen && isReady(guard.channel)) {
                    pass(task, guard);
                    return;
                }
            }
            for (Guard guard = alternative.guards; guard != null; guard = guard.next) {
                if (guard.isOpen) {
                    await(task, guard.channel, guard.variable, guard.follow);
                }
            }
            pause();
        }

        private void pass(Task task, Guard guard) {
            if (guard.channel != NONE) {
                assign(guard.variable, fetched(guard.channel));
            }
            task.enter(guard.follow);
        }

        private int evaluate(int[] code) {
            int size = 0;
            for (int i = 0; i < code.length && size < TEXT_MOST; i++) {
                int one = code[i];
                if (one >= VARIABLE_CODE && one < VARIABLE_CODE + VARIABLES) {
                    stack[size] = variables[one - VARIABLE_CODE];
                    size++;
                } else if (one >= 0) {
                    stack[size] = one;
                    size++;
                } else if (one == NEGATE && size > 0) {
                    stack[size - 1] = -stack[size - 1];
                } else if (size > 1) {
                    size--;
                    stack[size - 1] = combined((char) -one, stack[size - 1], stack[size]);
                }
            }
            return stack[0];
        }

        private int combined(char operator, int left, int right) {
            if (right == 0 && (operator == '/' || operator == '%')) {
                close(BROKEN);
                throw new ArithmeticException("division by 0");
            }
            switch (operator) {
                case '<': return left < right ? 1 : 0;
                case '=': return left == right ? 1 : 0;
                case '+': return left + right;
                case '-': return left - right;
                case '*': return left * right;
                case '/': return left / right;
                default: return left % right;
            }
        }

        /** Takes a gift of the host's in. */
        void accept(int value) {
            if (channels[FROM_HOST].receiver != null) {
                deliver(channels[FROM_HOST], value);
            } else {
                gifts.addLast(value);
            }
        }

        /** Takes the first value out of the box, which makes room for one that waits. */
        int handOut() {
            int value = box.removeFirst();
            Task sender = channels[TO_HOST].sender;
            if (sender != null) {
                channels[TO_HOST].sender = null;
                box.addLast(sender.value);
                resume(sender);
            }
            return value;
        }
    }
}
