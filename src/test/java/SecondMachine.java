import java.math.BigInteger;
import java.util.ArrayDeque;
import java.util.ArrayList;
import java.util.Arrays;
import java.util.Deque;
import java.util.List;
import java.util.NoSuchElementException;
import java.util.function.ToIntFunction;

/**
 * The machine a second time, written after the document apart from the class and in another way: it is
 * given a tree instead of a text, and a task is a list of what it has still to do.
 */
final class SecondMachine {
    static final String NAMES = "ABCDIO";
    private static final int I = 4;
    private static final int O = 5;

    /** An EXPRESSION: how it is written, and its value for the VARIABLES. */
    record Expression(String text, ToIntFunction<int[]> value) {
    }

    /** A GUARD; its channel is -1 if it has the dot. */
    record Guard(Expression expression, int channel, int variable, Tree follow) {
        String text() {
            String input = channel < 0 ? "." : NAMES.charAt(channel) + "?" + (char) ('a' + variable);
            return expression.text + "&" + input + "," + follow.text();
        }
    }

    /** A PROCESS, its kind told by the character that marks it; '|' is no PROCESS but a YIELD to come. */
    record Tree(char kind, Expression expression, int channel, int variable, List<Tree> parts, List<Guard> guards) {
        int processes() {
            int all = 1;
            for (Tree part : parts) {
                all += part.processes();
            }
            for (Guard guard : guards) {
                all += guard.follow.processes();
            }
            return all;
        }

        String text() {
            StringBuilder in = new StringBuilder();
            switch (kind) {
                case ':': return (char) ('a' + variable) + ":" + expression.text;
                case '!': return NAMES.charAt(channel) + "!" + expression.text;
                case 'i': return NAMES.charAt(channel) + "?" + (char) ('a' + variable);
                case '@': return "@" + expression.text;
                case '^': return "^" + expression.text + "," + parts.get(0).text();
                case '?': return "?" + expression.text + "," + parts.get(0).text() + "," + parts.get(1).text();
                case '(': parts.forEach(part -> in.append(part.text())); return "(" + in + ")";
                case '{': parts.forEach(part -> in.append(part.text())); return "{" + in + "}";
                case '[': guards.forEach(guard -> in.append(guard.text())); return "[" + in + "]";
                default: return String.valueOf(kind);
            }
        }
    }

    private static final Tree YIELD = new Tree('|', null, -1, -1, List.of(), List.of());

    private static final class Task {
        final Task maker;
        final Deque<Tree> todo = new ArrayDeque<>();
        int children = 0;
        int value = 0;
        BigInteger wake = BigInteger.ZERO;
        List<Guard> waits = List.of();

        Task(Task maker, Tree all) {
            this.maker = maker;
            todo.push(all);
            open();
        }

        /** SEQUENCES have no ACT of their own: they are open as soon as they are first. */
        void open() {
            while (!todo.isEmpty() && todo.peek().kind == '(') {
                List<Tree> parts = todo.pop().parts;
                for (int i = parts.size() - 1; i >= 0; i--) {
                    todo.push(parts.get(i));
                }
            }
        }

        void follow(Tree next) {
            todo.push(next);
            open();
        }

        void drop() {
            todo.pop();
            open();
        }
    }

    final int[] variables = new int[6];
    private final Deque<Task> queue = new ArrayDeque<>();
    private final List<Task> living = new ArrayList<>();
    private final List<Task> sleeping = new ArrayList<>();
    private final List<List<Task>> senders = new ArrayList<>();
    private final List<List<Task>> receivers = new ArrayList<>();
    private final Deque<Integer> gifts = new ArrayDeque<>();
    private final Deque<Integer> box = new ArrayDeque<>();
    private BigInteger time = BigInteger.ZERO;
    private int acts = 0;
    private int state = 0;

    SecondMachine() {
        for (int c = 0; c < 6; c++) {
            senders.add(new ArrayList<>());
            receivers.add(new ArrayList<>());
        }
    }

    int load(Tree program) {
        stop(1);
        Arrays.fill(variables, 0);
        gifts.clear();
        box.clear();
        time = BigInteger.ZERO;
        acts = 0;
        Task main = new Task(null, program);
        if (main.todo.isEmpty()) {
            stop(2);
        } else {
            living.add(main);
            queue.add(main);
        }
        return program.processes();
    }

    private void stop(int newState) {
        state = newState;
        queue.clear();
        living.clear();
        sleeping.clear();
        senders.forEach(List::clear);
        receivers.forEach(List::clear);
    }

    private void needsProgram() {
        if (state != 1) {
            throw new IllegalStateException();
        }
    }

    int run(int n) {
        if (n < 1 || n > 200) {
            throw new IllegalArgumentException();
        }
        needsProgram();
        try {
            return untilItStops(n);
        } catch (ArithmeticException | IllegalStateException e) {
            stop(3);
            throw e;
        }
    }

    private int untilItStops(int n) {
        int done = 0;
        while (true) {
            withoutActs();
            if (state == 2) {
                return ChannelMachine.ENDED;
            }
            if (done == n) {
                return ChannelMachine.MORE;
            }
            if (!queue.isEmpty()) {
                done++;
                acts++;
                act(queue.peek(), queue.peek().todo.peek());
            } else if (!sleeping.isEmpty()) {
                wakeSome();
            } else if (!receivers.get(I).isEmpty() || !senders.get(O).isEmpty()) {
                return ChannelMachine.HOST;
            } else {
                throw new IllegalStateException("DEADLOCK");
            }
        }
    }

    /** The CURRENT task ENDS or YIELDS if it stands before no ACT; then the next one is CURRENT. */
    private void withoutActs() {
        while (!queue.isEmpty()) {
            Task current = queue.peek();
            if (current.todo.isEmpty()) {
                queue.remove();
                end(current);
            } else if (current.todo.peek() == YIELD) {
                queue.remove();
                current.drop();
                queue.add(current);
            } else {
                return;
            }
        }
    }

    private void end(Task task) {
        living.remove(task);
        if (task.maker == null) {
            stop(2);
        } else if (--task.maker.children == 0) {
            queue.add(task.maker);
        }
    }

    private void wakeSome() {
        time = sleeping.stream().map(task -> task.wake).min(BigInteger::compareTo).get();
        for (Task task : new ArrayList<>(sleeping)) {
            if (task.wake.equals(time)) {
                sleeping.remove(task);
                queue.add(task);
            }
        }
    }

    private void act(Task task, Tree tree) {
        if (tree.kind == '[') {
            alternative(task, tree.guards);
            return;
        }
        int value = tree.expression == null ? 0 : tree.expression.value.applyAsInt(variables);
        task.drop();
        switch (tree.kind) {
            case ':': variables[tree.variable] = value; break;
            case '!': output(task, tree.channel, value); break;
            case 'i': input(task, tree.channel, tree.variable); break;
            case '#': queue.remove(); break;
            case '@': delay(task, value); break;
            case '{': parallel(task, tree.parts); break;
            case '?': task.follow(tree.parts.get(value != 0 ? 0 : 1)); break;
            case '^':
                if (value != 0) {
                    task.follow(tree);
                    task.follow(YIELD);
                    task.follow(tree.parts.get(0));
                }
                break;
            default: break;
        }
    }

    private void delay(Task task, int value) {
        if (value > 0) {
            queue.remove();
            task.wake = time.add(BigInteger.valueOf(value));
            sleeping.add(task);
        }
    }

    private void parallel(Task task, List<Tree> parts) {
        for (Tree part : parts) {
            Task made = new Task(task, part);
            if (!made.todo.isEmpty()) {
                task.children++;
                living.add(made);
                queue.add(made);
            }
        }
        if (task.children > 0) {
            queue.remove();
        }
    }

    private void waitAt(List<Task> place, Task task) {
        if (!place.isEmpty() && !place.contains(task)) {
            throw new IllegalStateException("CLASH");
        }
        if (!place.contains(task)) {
            place.add(task);
        }
    }

    private void output(Task task, int channel, int value) {
        if (channel == O && box.size() < 8) {
            box.add(value);
        } else if (channel != O && !receivers.get(channel).isEmpty()) {
            receive(channel, value);
        } else {
            waitAt(senders.get(channel), task);
            task.value = value;
            queue.remove();
        }
    }

    /** The task that WAITS for INPUT at the channel gets the value. */
    private void receive(int channel, int value) {
        Task task = receivers.get(channel).get(0);
        Guard guard = task.waits.stream().filter(one -> one.channel == channel).findFirst().get();
        receivers.forEach(all -> all.remove(task));
        variables[guard.variable] = value;
        if (guard.follow != null) {
            task.follow(guard.follow);
        }
        queue.add(task);
    }

    private boolean isReady(int channel) {
        return channel < 0 || (channel == I ? !gifts.isEmpty() : !senders.get(channel).isEmpty());
    }

    private int fetch(int channel) {
        if (channel == I) {
            return gifts.remove();
        }
        Task sender = senders.get(channel).remove(0);
        queue.add(sender);
        return sender.value;
    }

    private void input(Task task, int channel, int variable) {
        if (isReady(channel)) {
            variables[variable] = fetch(channel);
        } else {
            waitFor(task, List.of(new Guard(null, channel, variable, null)));
        }
    }

    private void waitFor(Task task, List<Guard> guards) {
        task.waits = guards;
        for (Guard guard : guards) {
            waitAt(receivers.get(guard.channel), task);
        }
        queue.remove();
    }

    private void alternative(Task task, List<Guard> guards) {
        List<Guard> open = new ArrayList<>();
        for (Guard guard : guards) {
            if (guard.expression.value.applyAsInt(variables) != 0) {
                open.add(guard);
            }
        }
        task.drop();
        for (Guard guard : open) {
            if (isReady(guard.channel)) {
                if (guard.channel >= 0) {
                    variables[guard.variable] = fetch(guard.channel);
                }
                task.follow(guard.follow);
                return;
            }
        }
        waitFor(task, open);
    }

    int give(int value) {
        needsProgram();
        if (gifts.size() == 8) {
            throw new IllegalStateException();
        }
        if (receivers.get(I).isEmpty()) {
            gifts.add(value);
        } else {
            receive(I, value);
        }
        return gifts.size();
    }

    int take() {
        if (box.isEmpty()) {
            throw new NoSuchElementException();
        }
        int value = box.remove();
        if (!senders.get(O).isEmpty()) {
            box.add(fetch(O));
        }
        return value;
    }

    int channel(int c) {
        return !receivers.get(c).isEmpty() ? 1 : !senders.get(c).isEmpty() ? 2 : 0;
    }

    /** What count tells, but for THE PLACE. */
    int count(int what) {
        int[] all = {-1, time.intValue(), queue.size(), living.size(), acts, gifts.size(), box.size(), state,
            sleeping.size()};
        return all[what];
    }
}
