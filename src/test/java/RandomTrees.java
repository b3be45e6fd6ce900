import java.util.ArrayList;
import java.util.List;
import java.util.Random;

/** Programs made by a fixed seed, as trees whose text has one reading and at most 72 characters. */
final class RandomTrees {
    private static final int DEPTH = 7;

    final Random random;

    RandomTrees(long seed) {
        random = new Random(seed);
    }

    SecondMachine.Tree next() {
        while (true) {
            SecondMachine.Tree tree = random.nextInt(3) == 0 ? whole('(', 1) : whole('{', 1);
            if (tree.text().length() <= 72) {
                return tree;
            }
        }
    }

    private SecondMachine.Tree tree(char kind, SecondMachine.Expression expression, int channel, int variable,
            List<SecondMachine.Tree> parts) {
        return new SecondMachine.Tree(kind, expression, channel, variable, parts, List.of());
    }

    private SecondMachine.Tree whole(char kind, int depth) {
        List<SecondMachine.Tree> parts = new ArrayList<>();
        int number = depth == DEPTH ? 0 : depth > 1 && random.nextInt(4) == 0 ? 0 : 1 + random.nextInt(4);
        for (int i = 0; i < number; i++) {
            parts.add(process(depth + 1));
        }
        return tree(kind, null, -1, -1, parts);
    }

    private int variable() {
        return random.nextInt(random.nextBoolean() ? 2 : 6);
    }

    /** One of A .. D, more often the first, or the host's. */
    private int channel(int host) {
        return random.nextInt(3) == 0 ? host : random.nextInt(random.nextBoolean() ? 2 : 4);
    }

    private SecondMachine.Tree process(int depth) {
        int last = depth == DEPTH ? 9 : 14;
        switch (random.nextInt(last)) {
            case 0: return tree(':', sum(1, false), -1, variable(), List.of());
            case 1:
            case 2: return tree('!', sum(1, false), channel(5), -1, List.of());
            case 3:
            case 4: return tree('i', null, channel(4), variable(), List.of());
            case 5: return tree('@', random.nextBoolean() ? number(1 + random.nextInt(3)) : sum(1, false), -1, -1,
                    List.of());
            case 6: return tree(random.nextInt(4) == 0 ? '#' : '.', null, -1, -1, List.of());
            case 7: return whole('(', depth);
            case 8: return whole('{', depth);
            case 9:
            case 10: return tree('^', random.nextBoolean() ? number(1) : comparison(1, false), -1, -1,
                    List.of(process(depth + 1)));
            case 11: return tree('?', comparison(1, false), -1, -1, List.of(process(depth + 1), process(depth + 1)));
            default: return alternative(depth);
        }
    }

    private SecondMachine.Tree alternative(int depth) {
        List<SecondMachine.Guard> guards = new ArrayList<>();
        for (int i = 1 + random.nextInt(3); i > 0; i--) {
            int channel = random.nextInt(5) == 0 ? -1 : channel(4);
            SecondMachine.Expression open = random.nextInt(3) == 0 ? comparison(1, true)
                    : new SecondMachine.Expression("(1)", variables -> 1);
            guards.add(new SecondMachine.Guard(open, channel, variable(), process(depth + 1)));
        }
        return new SecondMachine.Tree('[', null, -1, -1, List.of(), guards);
    }

    private static SecondMachine.Expression number(int value) {
        return new SecondMachine.Expression(String.valueOf(value), variables -> value);
    }

    /** A GUARD's EXPRESSION is opened by a parenthesis: so the one before it can't go on with it. */
    private SecondMachine.Expression comparison(int depth, boolean isGuard) {
        SecondMachine.Expression left = sum(depth, isGuard);
        return random.nextBoolean() ? left : joined(left, random.nextBoolean() ? '<' : '=', sum(depth, false));
    }

    private SecondMachine.Expression sum(int depth, boolean isGuard) {
        SecondMachine.Expression left = product(depth, isGuard);
        while (random.nextInt(4) == 0) {
            left = joined(left, random.nextBoolean() ? '+' : '-', product(depth, false));
        }
        return left;
    }

    private SecondMachine.Expression product(int depth, boolean isGuard) {
        SecondMachine.Expression left = isGuard ? inside(depth) : unary(depth);
        while (random.nextInt(6) == 0) {
            left = joined(left, "*/%".charAt(random.nextInt(3)), unary(depth));
        }
        return left;
    }

    private SecondMachine.Expression inside(int depth) {
        SecondMachine.Expression in = comparison(depth + 1, false);
        return new SecondMachine.Expression("(" + in.text() + ")", in.value());
    }

    private SecondMachine.Expression unary(int depth) {
        int way = random.nextInt(depth == 5 ? 5 : 7);
        if (way == 5) {
            SecondMachine.Expression in = unary(depth + 1);
            return new SecondMachine.Expression("-" + in.text(), variables -> -in.value().applyAsInt(variables));
        }
        if (way == 6) {
            return inside(depth);
        }
        if (way > 2) {
            return number(random.nextInt(way == 3 ? 3 : 1000));
        }
        int variable = variable();
        return new SecondMachine.Expression(String.valueOf((char) ('a' + variable)), variables -> variables[variable]);
    }

    private static SecondMachine.Expression joined(SecondMachine.Expression left, char operator,
            SecondMachine.Expression right) {
        return new SecondMachine.Expression(left.text() + operator + right.text(), variables -> {
            int one = left.value().applyAsInt(variables);
            int two = right.value().applyAsInt(variables);
            switch (operator) {
                case '<': return one < two ? 1 : 0;
                case '=': return one == two ? 1 : 0;
                case '+': return one + two;
                case '-': return one - two;
                case '*': return one * two;
                case '/': return one / two;
                default: return one % two;
            }
        });
    }
}
