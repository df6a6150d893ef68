import java.util.ArrayDeque;
import java.util.Deque;
import java.util.HashSet;
import java.util.Set;
import java.util.regex.Matcher;
import java.util.regex.Pattern;

/**
 * FAULTS found in another way than the class does: of a LAW by following all rules of its grammar at once
 * (a set of rows of signs that may still come), of a WAR by its marks.
 */
final class SlowReader {
    private static final int NONE = -1;

    private SlowReader() {
    }

    /**
     * Rows of signs, the next one first. Capitals with a depth behind them are rules; a sign behind a blank
     * may have blanks ahead of it, one behind a # may not.
     */
    static int lawFault(String text) {
        Set<String> rows = new HashSet<>();
        rows.add("L0");
        for (int i = 0; i < text.length(); i++) {
            rows = open(rows);
            Set<String> then = new HashSet<>();
            for (String row : rows) {
                if (row.isEmpty()) {
                    if (text.charAt(i) == ' ') {
                        then.add(row);
                    }
                } else if (row.charAt(0) == ' ' && text.charAt(i) == ' ') {
                    then.add(row);
                } else if (row.charAt(1) == text.charAt(i)) {
                    then.add(row.substring(2));
                }
            }
            if (then.isEmpty()) {
                return i;
            }
            rows = then;
        }
        return open(rows).contains("") ? NONE : text.length();
    }

    /** Puts what its rule says for each rule that stands first, till all rows begin with signs. */
    private static Set<String> open(Set<String> rows) {
        Set<String> open = new HashSet<>();
        Deque<String> todo = new ArrayDeque<>(rows);
        Set<String> seen = new HashSet<>(rows);
        while (!todo.isEmpty()) {
            String row = todo.remove();
            if (row.isEmpty() || row.charAt(0) == ' ' || row.charAt(0) == '#') {
                open.add(row);
                continue;
            }
            for (String way : ways(row.charAt(0), row.charAt(1) - '0')) {
                String next = way + row.substring(2);
                if (seen.add(next)) {
                    todo.add(next);
                }
            }
        }
        return open;
    }

    private static String[] ways(char rule, int d) {
        switch (rule) {
            case 'L': return new String[] {"K0M0"};
            case 'M': return new String[] {"", " ;K0M0"};
            case 'K': return new String[] {" y :S0", " y :C0 ?S0"};
            case 'C': return new String[] {"T" + d + "D" + d};
            case 'D': return new String[] {"", " |T" + d + "D" + d};
            case 'T': return new String[] {"U" + d + "V" + d};
            case 'V': return new String[] {"", " &U" + d + "V" + d};
            case 'U':
                String compared = "S" + d + "X0S" + d;
                return d == 6 ? new String[] {compared}
                    : new String[] {compared, " !U" + (d + 1), " (C" + (d + 1) + " )"};
            case 'X': return new String[] {" =", " <", " >"};
            case 'S': return new String[] {"P" + d + "Q" + d};
            case 'Q': return new String[] {"", " +P" + d + "Q" + d, " -P" + d + "Q" + d};
            case 'P': return new String[] {"A" + d + "B" + d};
            case 'B': return new String[] {"", " *A" + d + "B" + d, " /A" + d + "B" + d};
            case 'A': return atoms(d);
            case 'N': return digits(d);
            default: throw new IllegalStateException("no rule " + rule);
        }
    }

    private static String[] atoms(int d) {
        String letters = "dbniys";
        String[] all = new String[letters.length() + 10 + (d == 6 ? 0 : 1)];
        for (int i = 0; i < letters.length(); i++) {
            all[i] = " " + letters.charAt(i);
        }
        for (int i = 0; i < 10; i++) {
            all[letters.length() + i] = " " + i + "N3";
        }
        if (d < 6) {
            all[all.length - 1] = " [S" + (d + 1) + " ]";
        }
        return all;
    }

    private static String[] digits(int more) {
        String[] all = new String[more == 0 ? 1 : 11];
        all[0] = "";
        for (int i = 1; i < all.length; i++) {
            all[i] = "#" + (i - 1) + "N" + (more - 1);
        }
        return all;
    }

    static int warFault(String text) {
        Matcher marks = Pattern.compile("[0-9]+|[^ ]", Pattern.DOTALL).matcher(text);
        int[] told = new int[3];
        int[] bySide = new int[2];
        int[] atStep = new int[21];
        String kinds = "mow";
        String[] letters = {"sdvbni", "kx", "pg"};
        int[][] least = {{0, 0, 1, 0, 0, 0}, {1, 1}, {0, 0}};
        int[][] most = {{1, 20, 5, 1, 9, 9}, {20, 9}, {9, 1}};
        int kind = NONE;
        int item = NONE;
        int side = 0;
        int step = 3;
        String used = "";
        while (marks.find()) {
            String mark = marks.group();
            char c = mark.charAt(0);
            int at = marks.start();
            if (item != NONE) {
                if (c < '0' || c > '9') {
                    return at;
                }
                if (mark.length() > 2) {
                    return at + 2;
                }
                int number = Integer.parseInt(mark);
                if (number < least[kind][item] || number > most[kind][item]) {
                    return at + mark.length() - 1;
                }
                side = kind == 0 && item == 0 ? number : side;
                step = kind == 1 && item == 0 ? number : step;
                item = NONE;
            } else if (kind == NONE) {
                kind = kinds.indexOf(c);
                if (kind == NONE || told[kind] == new int[] {8, 6, 1}[kind]) {
                    return at;
                }
                told[kind]++;
                used = "";
                side = 0;
                step = 3;
            } else if (c == ';') {
                bySide[side] += kind == 0 ? 1 : 0;
                atStep[step] += kind == 1 ? 1 : 0;
                kind = NONE;
            } else {
                item = letters[kind].indexOf(c);
                if (item == NONE || used.indexOf(c) >= 0) {
                    return at;
                }
                used += c;
            }
        }
        if (kind == NONE || item != NONE) {
            return text.length();
        }
        bySide[side] += kind == 0 ? 1 : 0;
        atStep[step] += kind == 1 ? 1 : 0;
        boolean whole = bySide[0] > 0 && bySide[1] > 0;
        for (int many : atStep) {
            whole = whole && many < 2;
        }
        return whole ? NONE : text.length();
    }
}
