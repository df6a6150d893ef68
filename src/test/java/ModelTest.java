import java.util.NoSuchElementException;
import java.util.Random;

/** All promises by draws: runs of 512 calls, each answer against the Model's. */
public final class ModelTest {
    private static final int RUNS = 400;
    private static final int CALLS = 512;
    private static final int KINDS = 45;

    private ModelTest() {
    }

    public static void main(String[] args) {
        int runs = args.length > 1 ? Integer.parseInt(args[1]) : RUNS;
        for (int run = 0; run < runs; run++) {
            run(run);
        }
        Check.finish("ModelTest");
    }

    private static void run(int run) {
        Random r = new Random(run * 7919L + 1);
        LastHome x = new LastHome();
        Model y = new Model();
        int calls = 0;
        while (calls < CALLS) {
            if (calls == 0 || r.nextInt(90) == 0) {
                calls += tell(r, x, y, r.nextInt(20) == 0 ? "" : Drawn.war(r), 0, run);
            } else if (r.nextInt(60) == 0) {
                calls += tell(r, x, y, Drawn.law(r), 1, run);
            }
            int kind = r.nextInt(3) == 0 ? 6 + r.nextInt(10) : r.nextInt(KINDS);
            call(kind, r, x, y, run);
            calls++;
        }
    }

    private static int tell(Random r, LastHome x, Model y, String text, int sort, int run) {
        int calls = 2;
        x.end(0);
        y.end(0);
        for (int i = 0; i < text.length(); i += 20) {
            int[] n = new int[5];
            for (int j = 0; j < 20; j++) {
                n[j / 4] |= (i + j < text.length() ? text.charAt(i + j) : 0) << 24 - j % 4 * 8;
            }
            Check.same(run + " feed", x.feed(n[0], n[1], n[2], n[3], n[4]), y.feed(n));
            calls++;
        }
        Check.same(run + " text " + sort + " '" + text + "'", x.text(sort), y.text(sort));
        return calls;
    }

    private static int some(Random r, int most) {
        return r.nextInt(12) == 0 ? r.nextInt(2) == 0 ? -1 - r.nextInt(2) : most + r.nextInt(3) : r.nextInt(most);
    }

    private static int manOf(LastHome x, int man, int what) {
        try {
            return x.man(man, what);
        } catch (NoSuchElementException e) {
            return Check.HIDDEN;
        }
    }

    private static void call(int kind, Random r, LastHome x, Model y, int run) {
        int men = Math.max(1, x.count(0));
        int a = some(r, men);
        int b = some(r, men);
        int side = some(r, 2);
        int what = some(r, 3);
        int n = some(r, 4);
        int i = r.nextInt(3) == 0 ? -1 : r.nextInt(30);
        String told = "run " + run + " kind " + kind + " " + a + " " + b + " " + side + " " + what + " " + n + " " + i;
        switch (kind) {
            case 0: Check.same(told, x.count(what * 4 + n), y.count(what * 4 + n)); break;
            case 1: {
                int field = some(r, 9);
                Check.same(told + " " + field, manOf(x, a, field), y.man(a, field));
                break;
            }
            case 2: Check.same(told, x.orchard(what + n, side), y.orchard(what + n, side)); break;
            case 3: Check.same(told, x.law(n - 1), y.law(n - 1)); break;
            case 4: Check.same(told, x.won(), y.won()); break;
            case 5: Check.same(told, x.fault(side), y.fault(side)); break;
            case 6: case 7: Check.same(told, x.go(a), y.go(a)); break;
            case 8: case 9: Check.same(told, x.stay(a), y.stay(a)); break;
            case 10: case 11: Check.same(told, x.press(a, b), y.press(a, b)); break;
            case 12: Check.same(told, x.evening(), y.evening()); break;
            case 13: {
                int days = r.nextInt(10) == 0 ? some(r, 61) : 1 + r.nextInt(3);
                long seed = r.nextLong();
                Check.same(told + " " + days + " " + seed, x.march(days, seed), y.march(days, seed));
                break;
            }
            case 14: undoSome(r, x, y, told); break;
            case 15: Check.same(told, x.log(i * 2, what), y.log(i * 2, what)); break;
            case 16: Check.same(told, x.duel(a, b, what), y.duel(a, b, what)); break;
            case 17: Check.same(told, x.champion(side), y.champion(side)); break;
            case 18: Check.same(told, x.escorts(side, what), y.escorts(side, what)); break;
            case 19: Check.same(told, x.loophole(n), y.loophole(n)); break;
            case 20: Check.same(told, x.closed(), y.closed()); break;
            case 21: Check.same(told, x.reads(a), y.reads(a)); break;
            case 22: Check.same(told, x.away(a), y.away(a)); break;
            case 23: Check.same(told, x.forced(a), y.forced(a)); break;
            case 24: Check.same(told, x.soonest(side), y.soonest(side)); break;
            case 25: Check.same(told, x.pony(side), y.pony(side)); break;
            default: callMore(kind, r, x, y, told + " set");
        }
        Check.same(told + " then HOME", x.count(8), y.count(8));
        Check.same(told + " then ACTS", x.count(11), y.count(11));
    }

    private static void undoSome(Random r, LastHome x, Model y, String told) {
        int many = r.nextInt(8) == 0 ? 41 : 1;
        for (int u = 0; u < many; u++) {
            Check.same(told + " undo", x.undo(), y.undo());
        }
    }

    private static void callMore(int kind, Random r, LastHome x, Model y, String told) {
        int men = Math.max(1, x.count(0));
        int a = some(r, men);
        int b = some(r, men);
        int side = some(r, 2);
        int n = r.nextInt(9) == 0 ? some(r, 5) : 1 + r.nextInt(3);
        int i = r.nextInt(3) == 0 ? -1 : some(r, 40);
        String all = told + " " + a + " " + b + " " + side + " " + n + " " + i;
        switch (kind) {
            case 26: {
                int set = some(r, 1 << men);
                Check.same(all + " " + set, x.gets(a, set), y.gets(a, set));
                break;
            }
            case 27: Check.same(all, x.resting(i), y.resting(i)); break;
            case 28: {
                int k = some(r, 21);
                int many = some(r, 4);
                Check.same(all + " " + k + " " + many, x.letter(k, many), y.letter(k, many));
                break;
            }
            case 29: Check.same(all, x.fit(n, i * 3), y.fit(n, i * 3)); break;
            case 30: Check.same(all, x.fit(n, -1), y.fit(n, -1)); break;
            case 31: Check.same(all, x.ask(n, side), y.ask(n, side)); break;
            case 32: Check.same(all, x.odds(a, i), y.odds(a, i)); break;
            case 33: Check.same(all, x.hurry(side, i), y.hurry(side, i)); break;
            case 34: Check.same(all, x.behind(side), y.behind(side)); break;
            case 35: Check.same(all, x.next(a), y.next(a)); break;
            case 36: Check.same(all, x.last(), y.last()); break;
            case 37: Check.same(all, x.even(), y.even()); break;
            case 38: Check.same(all, x.treaty(a, b), y.treaty(a, b)); break;
            case 39: Check.same(all, x.victors(side), y.victors(side)); break;
            case 40: Check.same(all, x.sure(n), y.sure(n)); break;
            case 41: Check.same(all, x.weary(), y.weary()); break;
            case 42: Check.same(all, x.ahead(a), y.ahead(a)); break;
            case 43: Check.same(all, x.meeting(a, b), y.meeting(a, b)); break;
            default: {
                if (r.nextInt(2) == 0) {
                    Check.same(all, x.image(), y.image());
                } else {
                    Check.same(all, x.back(), y.back());
                }
            }
        }
    }
}
