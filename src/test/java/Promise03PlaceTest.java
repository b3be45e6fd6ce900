import java.util.ArrayDeque;
import java.util.Deque;
import java.util.HashMap;
import java.util.HashSet;
import java.util.Map;
import java.util.Set;

/**
 * Promise 3: the place that load tells, against a slow reader that follows every way in which the
 * document's grammar lets a text begin. What is still due is a text: an upper-case letter with a
 * depth behind it stands for a part of the grammar, 't' and a letter for one of a set of characters.
 */
public final class Promise03PlaceTest {
    private static final int TEXTS = 3000;
    private static final Map<String, String[]> RULES = new HashMap<>();
    private static final Map<Character, String> SETS = new HashMap<>();

    public static void main(String[] args) {
        fillRules();
        RandomTexts texts = new RandomTexts(20261115);
        int programs = 0;
        for (int i = 0; i < TEXTS; i++) {
            programs += isRightPlace(texts.next()) ? 1 : 0;
        }
        if (programs < TEXTS / 6 || programs > TEXTS * 5 / 6) {
            Checks.fault("of " + TEXTS + " texts " + programs + " are programs: too few on one side");
        }
        Checks.end();
    }

    private static boolean isRightPlace(String text) {
        int due = placeOf(text);
        Checks x = new Checks();
        x.typeText(text);
        String answer = x.answer("load");
        if (answer.equals(Checks.BAD) != (due >= 0)) {
            Checks.fault("load of " + text + " answered " + answer + ", the place due is " + due);
        }
        x.due(due, "count", 0);
        return due < 0;
    }

    private static void set(char name, String characters) {
        SETS.put(name, characters);
    }

    private static void rule(String name, String... ways) {
        RULES.put(name, ways);
    }

    private static void fillRules() {
        set('v', "abcdef");
        set('d', "0123456789");
        set('o', "ABCDO");
        set('i', "ABCDI");
        set('c', "<=");
        set('s', "+-");
        set('p', "*/%");
        for (int d = 1; d <= 5; d++) {
            String in = d < 5 ? String.valueOf(d + 1) : null;
            rule("E" + d, "S" + d, "S" + d + "tcS" + d);
            rule("S" + d, "M" + d + "T" + d);
            rule("T" + d, "", "tsM" + d + "T" + d);
            rule("M" + d, "U" + d + "N" + d);
            rule("N" + d, "", "tpU" + d + "N" + d);
            String small = "td|tdtd|tdtdtd|tv";
            rule("U" + d, (in == null ? small : small + "|-U" + in + "|(E" + in + ")").split("\\|"));
        }
        for (int d = 1; d <= 7; d++) {
            String flat = "tv:E1;to!E1;ti?tv;.;#;();{};[];@E1";
            rule("P" + d, (d == 7 ? flat : flat + deeper(d + 1)).split(";"));
            rule("L" + d, "P" + d, "P" + d + "L" + d);
            rule("G" + d, "E1&ti?tv,P" + d, "E1&.,P" + d);
        }
    }

    private static String deeper(int d) {
        StringBuilder ways = new StringBuilder(";(L" + d + ");^E1,P" + d + ";?E1,P" + d + ",P" + d);
        for (int n = 1; n <= 4; n++) {
            ways.append(";{").append(("P" + d).repeat(n)).append('}');
            ways.append(";[").append(("G" + d).repeat(n)).append(']');
        }
        return ways.toString();
    }

    private static boolean isPart(String due) {
        return due.length() > 1 && Character.isDigit(due.charAt(1)) && RULES.containsKey(due.substring(0, 2));
    }

    private static Set<String> opened(Set<String> all) {
        Deque<String> left = new ArrayDeque<>(all);
        Set<String> seen = new HashSet<>(all);
        Set<String> plain = new HashSet<>();
        while (!left.isEmpty()) {
            String due = left.pop();
            if (!isPart(due)) {
                plain.add(due);
                continue;
            }
            for (String way : RULES.get(due.substring(0, 2))) {
                String next = way + due.substring(2);
                if (seen.add(next)) {
                    left.push(next);
                }
            }
        }
        return plain;
    }

    /** What is due behind c, or null if c is not the next character. */
    private static String behind(String due, char c) {
        if (due.isEmpty()) {
            return null;
        }
        if (due.charAt(0) == 't') {
            return SETS.get(due.charAt(1)).indexOf(c) >= 0 ? due.substring(2) : null;
        }
        return due.charAt(0) == c ? due.substring(1) : null;
    }

    private static int placeOf(String text) {
        Set<String> due = opened(Set.of("P1"));
        for (int i = 0; i < text.length(); i++) {
            Set<String> next = new HashSet<>();
            for (String one : due) {
                String rest = behind(one, text.charAt(i));
                if (rest != null) {
                    next.add(rest);
                }
            }
            if (next.isEmpty()) {
                return i;
            }
            due = opened(next);
        }
        return due.contains("") ? -1 : text.length();
    }
}
