import java.util.Arrays;
import java.util.function.Supplier;
import java.util.function.ToIntFunction;

/**
 * All that calls can tell of an object, as one text: what is so now, the LETTERS, the LOG, what can be UNDONE,
 * the IMAGE and the TAPE. Objects are made anew for each part, so that none is called more than 512 times.
 */
final class Trace {
    private static final int[] WILD = {Integer.MIN_VALUE, -1000000, -257, -33, -2};

    private final String name;
    private final Supplier<LastHome> made;
    private final String before;

    Trace(String name, Supplier<LastHome> made) {
        this.name = name;
        this.made = made;
        this.before = of(made);
    }

    /** The call answers what is due, and all is as it was. */
    void keeps(String call, ToIntFunction<LastHome> done, int due) {
        Check.same(name + ": " + call, done.applyAsInt(made.get()), due);
        keeps(call, done);
    }

    /** Whatever the call answers, all is as it was. */
    void keeps(String call, ToIntFunction<LastHome> done) {
        String after = of(() -> {
            LastHome x = made.get();
            done.applyAsInt(x);
            return x;
        });
        Check.same(name + ": " + call + " changes " + before + " to " + after, before.equals(after), true);
    }

    void refuses(String call, ToIntFunction<LastHome> done) {
        keeps(call, done, Check.NONE);
    }

    /** Numbers that are not within the bounds: the ones next to them, and ones that shifts or casts make small again. */
    static int[] outside(int least, int most) {
        int[] all = new int[WILD.length + 9];
        int count = 0;
        for (int wild : WILD) {
            if (wild < least) {
                all[count++] = wild;
            }
        }
        int[] near = {least - 1, most + 1, most + 2, most + 32, most + 64, most + 256, most + 65536, Integer.MAX_VALUE};
        for (int number : near) {
            all[count++] = number;
        }
        return Arrays.copyOf(all, count);
    }

    static String of(Supplier<LastHome> made) {
        StringBuilder all = new StringBuilder();
        tellNow(all, made.get());
        tellLetters(all, made.get());
        tellLog(all, made.get());
        tellUndone(all, made.get());
        LastHome imaged = made.get();
        all.append("\nback ").append(imaged.back());
        tellNow(all, imaged);
        LastHome loggedImage = made.get();
        loggedImage.back();
        tellLog(all, loggedImage);
        for (int sort = 0; sort < 2; sort++) {
            LastHome told = made.get();
            all.append("\ntext ").append(told.text(sort));
            tellNow(all, told);
        }
        return all.toString();
    }

    /** What all calls that ask answer, for all MEN, SIDES and LAWS and the numbers next to these. */
    static String asked(Supplier<LastHome> made) {
        StringBuilder all = new StringBuilder();
        int men = made.get().count(0);
        for (int m = -1; m <= men; m++) {
            LastHome x = made.get();
            all.append("\nof ").append(m).append(':');
            for (int o = -1; o <= men; o++) {
                all.append(' ').append(x.duel(m, o, 0)).append(',').append(x.duel(m, o, 1)).append(',').append(x.duel(m, o, 2));
                all.append(',').append(x.treaty(m, o)).append(',').append(x.meeting(m, o));
            }
            all.append(" ways ").append(x.away(m)).append(' ').append(x.forced(m)).append(' ').append(x.next(m));
            all.append(' ').append(x.ahead(m)).append(' ').append(x.reads(m));
            for (int n = -1; n <= 41; n += 3) {
                all.append(' ').append(x.odds(m, n)).append(',').append(x.gets(m, n));
            }
        }
        LastHome x = made.get();
        for (int side = -1; side <= 2; side++) {
            all.append("\nside ").append(x.champion(side)).append(' ').append(x.victors(side)).append(' ').append(x.behind(side));
            all.append(' ').append(x.escorts(side, 0)).append(' ').append(x.escorts(side, 1));
            all.append(' ').append(x.soonest(side)).append(' ').append(x.pony(side)).append(' ').append(x.hurry(side, 7));
        }
        for (int l = -1; l <= 4; l++) {
            all.append(" loophole ").append(x.loophole(l));
        }
        all.append("\nall ").append(x.closed()).append(' ').append(x.last()).append(' ').append(x.even());
        all.append(' ').append(x.weary()).append(' ').append(x.won());
        for (int i = -2; i <= 8; i++) {
            all.append(" resting ").append(x.resting(i));
        }
        tellLetters(all, x);
        return all.toString();
    }

    private static void tellNow(StringBuilder all, LastHome x) {
        all.append("\ncounts");
        for (int what = 0; what < 12; what++) {
            all.append(' ').append(x.count(what));
        }
        for (int m = 0; m < x.count(0); m++) {
            all.append("\nman ").append(m);
            for (int what = 0; what < 9; what++) {
                all.append(' ').append(x.man(m, what));
            }
            all.append(" reads ").append(x.reads(m));
        }
        for (int o = 0; o < x.count(1); o++) {
            all.append("\norchard ").append(x.orchard(o, 0)).append(' ').append(x.orchard(o, 1));
        }
        all.append("\nwon ").append(x.won()).append(" faults ").append(x.fault(0)).append(' ').append(x.fault(1));
    }

    private static void tellLetters(StringBuilder all, LastHome x) {
        for (int n = 1; n <= 3; n++) {
            all.append("\nfit ").append(x.fit(n, -1)).append(' ').append(x.fit(n, 0));
            all.append(' ').append(x.sure(n)).append(' ').append(x.ask(n, 0)).append(' ').append(x.ask(n, 1));
        }
    }

    private static void tellLog(StringBuilder all, LastHome x) {
        all.append("\nlog");
        for (int i = 0; i <= x.count(10); i++) {
            all.append(' ').append(x.log(i, 0)).append(',').append(x.log(i, 1)).append(',').append(x.log(i, 2));
        }
    }

    private static void tellUndone(StringBuilder all, LastHome x) {
        all.append("\nundone");
        int acts = x.count(11);
        for (int u = 0; u <= acts; u++) {
            all.append(' ').append(x.undo()).append(',').append(x.count(5)).append(',').append(x.count(10));
            all.append(',').append(x.log(0, 0));
        }
        for (int m = 0; m < x.count(0); m++) {
            all.append(' ').append(x.man(m, 1)).append(',').append(x.man(m, 6)).append(',').append(x.man(m, 7));
        }
    }
}
