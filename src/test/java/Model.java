import java.util.ArrayList;
import java.util.HashMap;
import java.util.HashSet;
import java.util.List;
import java.util.Map;
import java.util.Set;

/** The document written a second time, slowly: whole states are copied, texts are cut at their signs. */
final class Model {
    private static final int NONE = -1;
    private static final int HIDDEN = -1000000;

    private static final class State {
        int day;
        int[] steps = new int[0];
        int[] rests = new int[0];
        boolean[] did = new boolean[0];
        List<int[]> log = new ArrayList<>();

        State copy() {
            State c = new State();
            c.day = day;
            c.steps = steps.clone();
            c.rests = rests.clone();
            c.did = did.clone();
            c.log = new ArrayList<>(log);
            return c;
        }
    }

    String tape = "";
    private final List<String> laws = new ArrayList<>();
    private int held = NONE;
    private List<Map<Character, Integer>> men = new ArrayList<>();
    private List<Map<Character, Integer>> orchards = new ArrayList<>();
    private int pay = 0;
    private int allied = 0;
    private State now = new State();
    private List<State> undo = new ArrayList<>();
    private State kept = null;
    private List<int[]> letters = new ArrayList<>();
    private long chance;

    // ---- texts

    int feed(int... numbers) {
        StringBuilder more = new StringBuilder(tape);
        for (int n : numbers) {
            for (int shift = 24; shift >= 0; shift -= 8) {
                if ((n >>> shift & 255) != 0) {
                    more.append((char) (n >>> shift & 255));
                }
            }
        }
        if (more.length() > 240) {
            return NONE;
        }
        tape = more.toString();
        return tape.length();
    }

    boolean end(int n) {
        if (n < 0 || n > tape.length()) {
            return false;
        }
        tape = tape.substring(0, n);
        return true;
    }

    int fault(int sort) {
        return sort == 0 ? SlowReader.warFault(tape) : sort == 1 ? SlowReader.lawFault(tape) : -2;
    }

    int text(int sort) {
        if (sort != 0 && sort != 1 || fault(sort) != NONE || sort == 1 && laws.size() == 4) {
            return NONE;
        }
        String text = tape.replace(" ", "");
        tape = "";
        if (sort == 1) {
            laws.add(text);
            return laws.size() - 1;
        }
        men = new ArrayList<>();
        orchards = new ArrayList<>();
        pay = 6;
        allied = 0;
        for (String clause : text.split(";")) {
            Map<Character, Integer> items = new HashMap<>();
            java.util.regex.Matcher m = java.util.regex.Pattern.compile("([a-z])(\\d+)").matcher(clause.substring(1));
            while (m.find()) {
                items.put(m.group(1).charAt(0), Integer.parseInt(m.group(2)));
            }
            if (clause.charAt(0) == 'm') {
                String defaults = "s0d6v1b0n3i0";
                for (int i = 0; i < defaults.length(); i += 2) {
                    items.putIfAbsent(defaults.charAt(i), defaults.charAt(i + 1) - '0');
                }
                men.add(items);
            } else if (clause.charAt(0) == 'o') {
                items.putIfAbsent('k', 3);
                items.putIfAbsent('x', 2);
                orchards.add(items);
            } else {
                pay = items.getOrDefault('p', 6);
                allied = items.getOrDefault('g', 0);
            }
        }
        now = new State();
        now.steps = new int[men.size()];
        now.rests = new int[men.size()];
        now.did = new boolean[men.size()];
        for (int m = 0; m < men.size(); m++) {
            now.steps[m] = of(m, 'd');
            now.rests[m] = restAt(of(m, 'd'));
        }
        undo = new ArrayList<>();
        kept = null;
        letters = new ArrayList<>();
        return men.size();
    }

    private int of(int man, char item) {
        return men.get(man).get(item);
    }

    private int restAt(int step) {
        for (Map<Character, Integer> o : orchards) {
            if (o.get('k') == step) {
                return o.get('x');
            }
        }
        return 0;
    }

    // ---- LAWS

    private int worth(String law, int man) {
        Map<Character, Integer> values = new HashMap<>(men.get(man));
        values.put('d', now.steps[man]);
        values.put('y', now.day);
        for (String clause : law.split(";")) {
            String body = clause.substring(2);
            int mark = body.indexOf('?');
            if (mark < 0) {
                return sum(body, values);
            }
            if (holds(body.substring(0, mark), values)) {
                return sum(body.substring(mark + 1), values);
            }
        }
        return 0;
    }

    /** The last place outside of all ( and [ at which one of the signs stands. */
    private static int lastOutside(String s, String signs) {
        int depth = 0;
        for (int i = s.length() - 1; i >= 0; i--) {
            char c = s.charAt(i);
            depth += c == ')' || c == ']' ? 1 : c == '(' || c == '[' ? -1 : 0;
            if (depth == 0 && signs.indexOf(c) >= 0) {
                return i;
            }
        }
        return -1;
    }

    private static boolean holds(String s, Map<Character, Integer> values) {
        int or = lastOutside(s, "|");
        if (or >= 0) {
            return holds(s.substring(0, or), values) | holds(s.substring(or + 1), values);
        }
        int and = lastOutside(s, "&");
        if (and >= 0) {
            return holds(s.substring(0, and), values) & holds(s.substring(and + 1), values);
        }
        if (s.charAt(0) == '!') {
            return !holds(s.substring(1), values);
        }
        if (s.charAt(0) == '(') {
            return holds(s.substring(1, s.length() - 1), values);
        }
        int mark = lastOutside(s, "=<>");
        int left = sum(s.substring(0, mark), values);
        int right = sum(s.substring(mark + 1), values);
        return s.charAt(mark) == '=' ? left == right : s.charAt(mark) == '<' ? left < right : left > right;
    }

    private static int sum(String s, Map<Character, Integer> values) {
        int mark = lastOutside(s, "+-");
        if (mark < 0) {
            return term(s, values);
        }
        long left = sum(s.substring(0, mark), values);
        long right = term(s.substring(mark + 1), values);
        return bound(s.charAt(mark) == '+' ? left + right : left - right);
    }

    private static int term(String s, Map<Character, Integer> values) {
        int mark = lastOutside(s, "*/");
        if (mark >= 0) {
            long left = term(s.substring(0, mark), values);
            long right = term(s.substring(mark + 1), values);
            return bound(s.charAt(mark) == '*' ? left * right : right == 0 ? 0 : left / right);
        }
        if (s.charAt(0) == '[') {
            return sum(s.substring(1, s.length() - 1), values);
        }
        return Character.isDigit(s.charAt(0)) ? Integer.parseInt(s) : values.get(s.charAt(0));
    }

    private static int bound(long n) {
        return n > 1000000 ? 1000000 : n < -1000000 ? -1000000 : (int) n;
    }

    private boolean home(int man) {
        return held == NONE ? now.steps[man] == 0 : worth(laws.get(held), man) > 0;
    }

    // ---- the state

    private boolean isMan(int man) {
        return man >= 0 && man < men.size();
    }

    private boolean isSide(int side) {
        return !men.isEmpty() && (side == 0 || side == 1);
    }

    /** HIDDEN stands for the exception. */
    int man(int man, int what) {
        if (!isMan(man) || what < 0 || what > 8) {
            return HIDDEN;
        }
        if (what == 1) {
            return now.steps[man];
        }
        if (what < 6) {
            return of(man, "sdvbni".charAt(what));
        }
        return what == 6 ? now.rests[man] : what == 7 ? (now.did[man] ? 1 : 0) : home(man) ? 1 : 0;
    }

    int orchard(int orchard, int what) {
        if (orchard < 0 || orchard >= orchards.size() || what < 0 || what > 1) {
            return NONE;
        }
        return orchards.get(orchard).get(what == 0 ? 'k' : 'x');
    }

    boolean law(int law) {
        if (law < -1 || law >= laws.size()) {
            return false;
        }
        held = law;
        return true;
    }

    int won() {
        if (men.isEmpty()) {
            return NONE;
        }
        boolean[] all = {true, true};
        for (int m = 0; m < men.size(); m++) {
            all[of(m, 's')] &= home(m);
        }
        return all[0] && all[1] ? 2 : all[0] ? 1 : all[1] ? 0 : NONE;
    }

    private boolean over() {
        return won() != NONE;
    }

    private void remember() {
        undo.add(now.copy());
        if (undo.size() > 40) {
            undo.remove(0);
        }
    }

    private void write(int what, int who, int whom) {
        now.log.add(new int[] {what, who, whom});
    }

    private void shift(int man, int by) {
        for (int i = 0; i < by && now.steps[man] > 0; i++) {
            now.steps[man]--;
        }
        now.rests[man] = restAt(now.steps[man]);
    }

    private boolean may(int man) {
        return isMan(man) && !home(man) && !now.did[man] && !over();
    }

    private boolean mayPress(int man, int other) {
        return isMan(other) && man != other && !home(other) && now.steps[other] > 0 && now.rests[man] > 0
            && (allied == 1 || of(man, 's') != of(other, 's'));
    }

    private void act(int kind, int man, int other) {
        if (kind == 0) {
            shift(man, 1);
        } else {
            now.rests[man]--;
        }
        if (kind == 2) {
            shift(other, of(man, 'v'));
        }
        now.did[man] = true;
        write(kind, man, other);
    }

    int go(int man) {
        if (!may(man) || now.steps[man] == 0) {
            return NONE;
        }
        remember();
        act(0, man, NONE);
        return now.steps[man];
    }

    int stay(int man) {
        if (!may(man) || now.rests[man] == 0) {
            return NONE;
        }
        remember();
        act(1, man, NONE);
        return now.rests[man];
    }

    int press(int man, int other) {
        if (!may(man) || !mayPress(man, other)) {
            return NONE;
        }
        remember();
        act(2, man, other);
        return now.steps[other];
    }

    private void nextDay() {
        now.day++;
        now.did = new boolean[men.size()];
        write(3, NONE, NONE);
    }

    int evening() {
        if (men.isEmpty() || over() || now.day == 9999) {
            return NONE;
        }
        remember();
        for (int m = 0; m < men.size(); m++) {
            if (!over() && !home(m) && now.steps[m] > 0 && !now.did[m]) {
                shift(m, 1);
            }
        }
        nextDay();
        return now.day;
    }

    private int draw(int of) {
        chance = chance * 6364136223846793005L + 1442695040888963407L;
        return (int) ((chance >>> 33) % of);
    }

    int march(int n, long seed) {
        if (men.isEmpty() || n < 1 || n > 60 || over() || now.day + n > 9999) {
            return NONE;
        }
        chance = seed;
        for (int d = 0; d < n; d++) {
            if (over()) {
                break;
            }
            remember();
            for (int m = 0; m < men.size(); m++) {
                if (may(m) && draw(10) >= of(m, 'i')) {
                    marchMan(m, draw(3));
                }
            }
            nextDay();
        }
        return now.day;
    }

    private void marchMan(int m, int kind) {
        if (kind == 0 && now.steps[m] > 0) {
            act(0, m, NONE);
        } else if (kind == 1 && now.rests[m] > 0) {
            act(1, m, NONE);
        } else if (kind == 2) {
            for (int o = 0; o < men.size(); o++) {
                if (mayPress(m, o)) {
                    act(2, m, o);
                    return;
                }
            }
        }
    }

    int undo() {
        if (undo.isEmpty()) {
            return NONE;
        }
        now = undo.remove(undo.size() - 1);
        return undo.size();
    }

    private int logLength() {
        return Math.min(60, now.log.size());
    }

    int log(int i, int what) {
        return i < 0 || i >= logLength() || what < 0 || what > 2 ? HIDDEN : now.log.get(now.log.size() - 1 - i)[what];
    }

    int image() {
        if (men.isEmpty()) {
            return NONE;
        }
        kept = now.copy();
        return now.day;
    }

    int back() {
        if (kept == null) {
            return NONE;
        }
        now = kept.copy();
        undo = new ArrayList<>();
        return now.day;
    }

    int count(int what) {
        int bits = 0;
        for (int m = 0; m < men.size(); m++) {
            bits |= home(m) ? 1 << m : 0;
        }
        int[] all = {men.size(), orchards.size(), laws.size(), tape.length(), held, now.day, pay, allied, bits,
            letters.size(), logLength(), undo.size()};
        return what < 0 || what >= all.length ? HIDDEN : all[what];
    }

    // ---- DUELS

    /** Of who is in turn: turns till he wins, or below 0 till he loses. (His SPEED tells who of the two it is.) */
    private int settle(int[] at, int[] speeds, Map<String, Integer> known) {
        String key = at[0] + "," + at[1] + "," + at[2] + "," + at[3] + "," + speeds[0];
        Integer old = known.get(key);
        if (old != null) {
            return old;
        }
        Integer best = null;
        for (int kind = 0; kind < 3; kind++) {
            Integer got = settleBy(kind, at, speeds, known);
            best = best == null || got != null && better(got, best) ? got : best;
        }
        known.put(key, best);
        return best;
    }

    private static boolean better(int a, int b) {
        if (a > 0 != b > 0) {
            return a > 0;
        }
        return a > 0 ? a < b : -a > -b;
    }

    private Integer settleBy(int kind, int[] at, int[] speeds, Map<String, Integer> known) {
        int[] then = at.clone();
        if (kind == 0) {
            then[0]--;
            then[1] = restAt(then[0]);
        } else {
            if (at[1] == 0) {
                return null;
            }
            then[1]--;
        }
        if (kind == 2) {
            then[2] = Math.max(0, at[2] - speeds[0]);
            then[3] = restAt(then[2]);
        }
        if (then[0] == 0) {
            return -1;
        }
        if (then[2] == 0) {
            return 1;
        }
        int reply = settle(new int[] {then[2], then[3], then[0], then[1]}, new int[] {speeds[1], speeds[0]}, known);
        return reply > 0 ? -(reply + 1) : -reply + 1;
    }

    private boolean noDuel(int first, int other) {
        return !isMan(first) || !isMan(other) || first == other || now.steps[first] == 0 || now.steps[other] == 0;
    }

    private int[] placesOf(int first, int other, int less) {
        return new int[] {now.steps[first], now.rests[first] - less, now.steps[other], now.rests[other] - less};
    }

    int duel(int first, int other, int what) {
        if (noDuel(first, other) || what < 0 || what > 2) {
            return NONE;
        }
        int[] speeds = {of(first, 'v'), of(other, 'v')};
        Map<String, Integer> known = new HashMap<>();
        int[] at = placesOf(first, other, 0);
        int worth = settle(at, speeds, known);
        if (what < 2) {
            return what == 0 ? (worth > 0 ? 1 : 0) : Math.abs(worth);
        }
        for (int kind = 0; kind < 3; kind++) {
            Integer got = settleBy(kind, at, speeds, known);
            if (got != null && got == worth) {
                return kind;
            }
        }
        return HIDDEN;
    }

    int treaty(int first, int other) {
        if (noDuel(first, other)) {
            return NONE;
        }
        int[] speeds = {of(first, 'v'), of(other, 'v')};
        Map<String, Integer> known = new HashMap<>();
        boolean wins = settle(placesOf(first, other, 0), speeds, known) > 0;
        int n = 0;
        while (n < 9 && n < now.rests[first] && n < now.rests[other]
            && settle(placesOf(first, other, n + 1), speeds, known) > 0 == wins) {
            n++;
        }
        return n;
    }

    private List<Integer> walkers(int side) {
        List<Integer> all = new ArrayList<>();
        for (int m = 0; m < men.size(); m++) {
            if (of(m, 's') == side && now.steps[m] > 0) {
                all.add(m);
            }
        }
        return all;
    }

    private int winsOf(int man) {
        int wins = 0;
        for (int o : walkers(1 - of(man, 's'))) {
            wins += duel(man, o, 0);
        }
        return wins;
    }

    int champion(int side) {
        if (!isSide(side)) {
            return NONE;
        }
        int best = NONE;
        int most = -1;
        for (int m : walkers(side)) {
            int wins = winsOf(m);
            if (wins > most) {
                best = m;
                most = wins;
            }
        }
        return best;
    }

    int victors(int side) {
        if (!isSide(side)) {
            return NONE;
        }
        int bits = 0;
        int foes = walkers(1 - side).size();
        for (int m : walkers(side)) {
            bits |= foes > 0 && winsOf(m) == foes ? 1 << m : 0;
        }
        return bits;
    }

    // ---- ESCORTS: all rows are tried, the least first

    int escorts(int side, int what) {
        if (!isSide(side) || what < 0 || what > 1) {
            return NONE;
        }
        List<Integer> who = new ArrayList<>();
        for (int m = 0; m < men.size(); m++) {
            if (of(m, 's') == side && !home(m) && now.rests[m] > 0) {
                who.add(m);
            }
        }
        int[] best = {-1, 0};
        tryRows(who, 0, new HashSet<>(), 0, best);
        return best[what];
    }

    private void tryRows(List<Integer> who, int i, Set<Integer> taken, int row, int[] best) {
        if (i == who.size()) {
            if (taken.size() > best[0]) {
                best[0] = taken.size();
                best[1] = row;
            }
            return;
        }
        int m = who.get(i);
        for (int o = 0; o < men.size(); o++) {
            boolean ends = now.steps[o] > 0 && now.steps[o] <= of(m, 'v');
            if (of(o, 's') != of(m, 's') && !home(o) && ends && taken.add(o)) {
                tryRows(who, i + 1, taken, row * 10 + o, best);
                taken.remove(o);
            }
        }
        tryRows(who, i + 1, taken, row * 10 + 9, best);
    }

    // ---- loopholes

    int loophole(int law) {
        if (men.isEmpty() || law < 0 || law >= laws.size()) {
            return NONE;
        }
        int bits = 0;
        for (int m = 0; m < men.size(); m++) {
            bits |= now.steps[m] > 0 && worth(laws.get(law), m) > 0 ? 1 << m : 0;
        }
        return bits;
    }

    int closed() {
        if (men.isEmpty()) {
            return NONE;
        }
        for (int size = 1; size <= laws.size(); size++) {
            for (int set = 1; set < 1 << laws.size(); set++) {
                int through = 255;
                for (int l = 0; l < laws.size(); l++) {
                    through &= (set >> l & 1) == 1 ? loophole(l) : 255;
                }
                if (Integer.bitCount(set) == size && through == 0) {
                    return set;
                }
            }
        }
        return NONE;
    }

    int reads(int man) {
        if (!isMan(man)) {
            return NONE;
        }
        int bits = 0;
        for (int l = 0; l < laws.size(); l++) {
            bits |= worth(laws.get(l), man) > 0 ? 1 << l : 0;
        }
        return bits;
    }

    // ---- ways

    /** DAY by DAY: he STAYS as long as he may, then he GOES. */
    int away(int man) {
        if (!isMan(man)) {
            return NONE;
        }
        State old = now.copy();
        int days = 0;
        while (now.steps[man] > 0) {
            days++;
            if (now.rests[man] > 0) {
                now.rests[man]--;
            } else {
                shift(man, 1);
            }
        }
        now = old;
        return days;
    }

    int forced(int man) {
        if (!isMan(man)) {
            return NONE;
        }
        int[] rests = now.rests.clone();
        int left = now.steps[man];
        int days = 0;
        while (left > 0) {
            days++;
            for (int o = 0; o < men.size(); o++) {
                if (of(o, 's') != of(man, 's') && rests[o]-- > 0) {
                    left -= of(o, 'v');
                }
            }
            left--;
        }
        return days;
    }

    private int farthest(int side) {
        int best = NONE;
        for (int m = men.size() - 1; m >= 0; m--) {
            if ((side == 2 || of(m, 's') == side) && (best == NONE || now.steps[m] >= now.steps[best])) {
                best = m;
            }
        }
        return best;
    }

    int soonest(int side) {
        return isSide(side) ? now.steps[farthest(side)] : NONE;
    }

    int pony(int side) {
        return isSide(side) ? farthest(side) : NONE;
    }

    int last() {
        return farthest(2);
    }

    int behind(int side) {
        int bits = 0;
        for (int m = 0; m < men.size(); m++) {
            bits |= of(m, 's') == side && !home(m) ? 1 << m : 0;
        }
        return isSide(side) ? bits : NONE;
    }

    int next(int man) {
        for (int s = isMan(man) ? now.steps[man] - 1 : 0; s > 0; s--) {
            for (int o = 0; o < orchards.size(); o++) {
                if (orchards.get(o).get('k') == s) {
                    return o;
                }
            }
        }
        return NONE;
    }

    int ahead(int man) {
        int bits = 0;
        for (int o = 0; isMan(man) && o < orchards.size(); o++) {
            bits |= orchards.get(o).get('k') < now.steps[man] ? 1 << o : 0;
        }
        return isMan(man) ? bits : NONE;
    }

    int even() {
        int[] sums = new int[2];
        for (int m = 0; m < men.size(); m++) {
            sums[of(m, 's')] += now.steps[m];
        }
        return men.isEmpty() ? NONE : sums[0] == sums[1] ? 1 : 0;
    }

    int meeting(int one, int other) {
        if (!isMan(one) || !isMan(other)) {
            return NONE;
        }
        return Math.max(now.steps[one], now.steps[other]) - Math.min(now.steps[one], now.steps[other]);
    }

    int weary() {
        for (int need = 9; need >= 0; need--) {
            for (int m = 0; m < men.size(); m++) {
                if (!home(m) && of(m, 'n') == need) {
                    return m;
                }
            }
        }
        return NONE;
    }

    // ---- EACH FOR HIMSELF

    int gets(int man, int asleep) {
        if (!isMan(man) || asleep < 0 || asleep >= 1 << men.size()) {
            return HIDDEN;
        }
        boolean[] all = {true, true};
        for (int m = 0; m < men.size(); m++) {
            all[of(m, 's')] &= (asleep >> m & 1) == 1;
        }
        int own = (asleep >> man & 1) == 1 ? of(man, 'n') : 0;
        if (all[0] != all[1]) {
            own += all[of(man, 's')] ? -pay : pay;
        }
        return own;
    }

    int resting(int i) {
        if (men.isEmpty()) {
            return NONE;
        }
        List<Integer> sets = new ArrayList<>();
        for (int set = 0; set < 1 << men.size(); set++) {
            boolean rests = true;
            for (int m = 0; m < men.size(); m++) {
                rests &= gets(m, set ^ 1 << m) <= gets(m, set);
            }
            if (rests) {
                sets.add(set);
            }
        }
        return i == NONE ? sets.size() : i < 0 || i >= sets.size() ? NONE : sets.get(i);
    }

    // ---- LETTERS

    int letter(int k, int many) {
        if (k < 0 || k > 20 || many < 0 || many > 3 || letters.size() == 10) {
            return NONE;
        }
        letters.add(new int[] {k, many});
        return letters.size();
    }

    private static int answer(int[] row, int k) {
        int many = 0;
        for (int s : row) {
            many += s <= k ? 1 : 0;
        }
        return many;
    }

    private List<int[]> rows(int n) {
        List<int[]> all = new ArrayList<>();
        int end = n == 1 ? 21 : n == 2 ? 441 : 9261;
        for (int code = 0; code < end; code++) {
            int[] row = new int[n];
            int rest = code;
            boolean fits = true;
            for (int i = n - 1; i >= 0; i--) {
                row[i] = rest % 21;
                rest /= 21;
                fits &= i == n - 1 || row[i] <= row[i + 1];
            }
            for (int[] l : letters) {
                fits &= answer(row, l[0]) == l[1];
            }
            if (fits) {
                all.add(row);
            }
        }
        return all;
    }

    int fit(int n, int i) {
        if (n < 1 || n > 3) {
            return NONE;
        }
        List<int[]> all = rows(n);
        if (i == NONE) {
            return all.size();
        }
        if (i < 0 || i >= all.size()) {
            return NONE;
        }
        int code = 0;
        for (int s : all.get(i)) {
            code = code * 21 + s;
        }
        return code;
    }

    int ask(int n, int what) {
        if (n < 1 || n > 3 || what < 0 || what > 1 || rows(n).isEmpty()) {
            return NONE;
        }
        List<int[]> all = rows(n);
        int best = NONE;
        int least = Integer.MAX_VALUE;
        for (int k = 0; k <= 20; k++) {
            int[] many = new int[4];
            int most = 0;
            for (int[] row : all) {
                most = Math.max(most, ++many[answer(row, k)]);
            }
            if (most < least) {
                least = most;
                best = k;
            }
        }
        return what == 0 ? best : least;
    }

    int sure(int n) {
        if (n < 1 || n > 3 || rows(n).isEmpty()) {
            return NONE;
        }
        int bits = 0;
        for (int s = 0; s <= 20; s++) {
            boolean inAll = true;
            for (int[] row : rows(n)) {
                boolean here = false;
                for (int t : row) {
                    here |= t == s;
                }
                inAll &= here;
            }
            bits |= inAll ? 1 << s : 0;
        }
        return bits;
    }

    // ---- sickness

    int odds(int man, int n) {
        if (!isMan(man) || n < 0 || n > 40) {
            return NONE;
        }
        long[] parts = new long[22];
        parts[now.steps[man]] = 1000000000L;
        for (int d = 0; d < n; d++) {
            long[] then = new long[22];
            then[0] = parts[0];
            for (int s = 1; s <= 20; s++) {
                long stays = parts[s] * of(man, 'i') / 10;
                then[s] += stays;
                then[s - 1] += parts[s] - stays;
            }
            parts = then;
        }
        return (int) parts[0];
    }

    int hurry(int side, int n) {
        if (!isSide(side) || n < 0 || n > 40) {
            return NONE;
        }
        int best = NONE;
        for (int m : walkers(side)) {
            best = best == NONE || odds(m, n) > odds(best, n) ? m : best;
        }
        return best;
    }
}
