/** The edges of part 3 of the Terms in promises 27 to 33 and 40. Each check bears the words it holds to. */
public final class EdgeChanceTest {
    private static final int ALL_PARTS = 1000000000;

    private EdgeChanceTest() {
    }

    public static void main(String[] args) {
        getsBySets();
        getsByPay();
        restingAtEvenChoices();
        restingFromFirstToLast();
        lettersUpToTen();
        lettersAtTheirBounds();
        fitFromFirstToLast();
        fitOfLetters();
        askWithoutLetters();
        askAmongWhatFits();
        sureInAllRows();
        oddsByDays();
        oddsAreCut();
        hurryOfSeveral();
        Check.finish("EdgeChanceTest");
    }

    /** A set of those who sleep (bits). HIDDEN: no such MAN, no such set. */
    private static void getsBySets() {
        for (int men = 2; men <= 8; men++) {
            LastHome x = Check.war("ms1" + ";m".repeat(men - 1));
            int all = (1 << men) - 1;
            Check.same("the empty set", x.gets(men - 1, 0), 0);
            Check.same("the full set", x.gets(men - 1, all), 3);
            Check.same("beyond the full set", x.gets(men - 1, all + 1), Check.HIDDEN);
            Check.same("below the empty set", x.gets(men - 1, -1), Check.HIDDEN);
            Check.same("beyond the last MAN", x.gets(men, 0), Check.HIDDEN);
            Check.same("MAN -1", x.gets(-1, 0), Check.HIDDEN);
        }
        Check.same("no WAR", new LastHome().gets(0, 0), Check.HIDDEN);
    }

    /** Who sleeps has NEED; and if all of just one SIDE sleep, each of it has PAY less, each of the other one PAY more. */
    private static void getsByPay() {
        int[] need = {0, 9, 4, 2};
        int[] side = {0, 1, 0, 1};
        for (int pay = 0; pay <= 9; pay++) {
            LastHome x = Check.war("mn0;ms1n9;mn4;ms1n2;wp" + pay);
            for (int set = 0; set < 16; set++) {
                boolean first = (set & 5) == 5;
                boolean second = (set & 10) == 10;
                for (int m = 0; m < 4; m++) {
                    int due = (set >> m & 1) * need[m];
                    if (first && !second) {
                        due += side[m] == 0 ? -pay : pay;
                    }
                    if (second && !first) {
                        due += side[m] == 1 ? -pay : pay;
                    }
                    Check.same("PAY " + pay + " set " + set + " MAN " + m, x.gets(m, set), due);
                }
            }
        }
        LastHome lone = Check.war("mn1;ms1n9;ms1n9;wp9");
        Check.same("the least one has", lone.gets(0, 1), 1 - 9);
        Check.same("the most one has", lone.gets(2, 5), 9 + 9);
        Check.same("all of neither", lone.gets(1, 2), 9);
        Check.same("all of both", lone.gets(0, 7), 1);
    }

    private static void resting(String war, int... due) {
        LastHome x = Check.war(war);
        Check.same("resting " + war, x.resting(Check.NONE), due.length);
        for (int i = 0; i < due.length; i++) {
            Check.same("resting " + war + " " + i, x.resting(i), due[i]);
        }
        Check.same("behind the last of " + war, x.resting(due.length), Check.NONE);
        Check.same("below NONE", x.resting(-2), Check.NONE);
    }

    /** Sets by which nobody has more by the other choice alone: as much is not more. */
    private static void restingAtEvenChoices() {
        resting("mn3;ms1n3;wp6", 0);
        resting("mn3;ms1n3;wp4", 0);
        resting("mn3;ms1n3;wp3", 0, 1, 2, 3);
        resting("mn3;ms1n3;wp2", 3);
        resting("mn3;ms1n3;wp0", 3);
        resting("mn0;ms1n0;wp0", 0, 1, 2, 3);
        resting("mn0;ms1n0;wp1", 0);
        resting("mn1;ms1n0;wp1", 0, 1);
        resting("mn2;ms1n0;wp1", 1);
        resting("mn0;ms1n2;wp1", 2);
        // Of two of a SIDE one sleeps for nothing, as long as the other one marches.
        resting("mn1;mn1;ms1n0;wp9", 1, 2);
    }

    /** How many (i NONE), the i-th (rising). */
    private static void restingFromFirstToLast() {
        LastHome x = Check.war("mn0;mn0;mn0;mn0;ms1n0;ms1n0;ms1n0;ms1n0;wp0");
        Check.same("all sets", x.resting(Check.NONE), 256);
        for (int i = 0; i < 256; i++) {
            Check.same("the i-th", x.resting(i), i);
        }
        Check.same("behind the last", x.resting(256), Check.NONE);
        LastHome y = Check.war("mn2;mn5;mn0;ms1n9;ms1n1;ms1n0;wp4");
        int many = y.resting(Check.NONE);
        int found = 0;
        for (int set = 0; set < 64; set++) {
            boolean rests = true;
            for (int m = 0; m < 6; m++) {
                rests &= gets(m, set) >= gets(m, set ^ 1 << m);
            }
            if (rests) {
                Check.same("the next one", y.resting(found), set);
                found++;
            }
        }
        Check.same("how many", many, found);
        Check.same("some", found > 0, true);
        Check.same("no more", y.resting(found), Check.NONE);
    }

    private static int gets(int man, int set) {
        int[] need = {2, 5, 0, 9, 1, 0};
        int own = (set >> man & 1) * need[man];
        boolean first = (set & 7) == 7;
        boolean second = (set & 56) == 56;
        return first == second ? own : first == man < 3 ? own - 4 : own + 4;
    }

    /** LETTERS (10 at most): how many there are. NONE: there are ten. */
    private static void lettersUpToTen() {
        LastHome x = new LastHome();
        for (int i = 1; i <= 10; i++) {
            Check.same("LETTER " + i, x.letter(2 * i, i % 4), i);
            Check.same("there are", x.count(9), i);
        }
        Check.same("an eleventh", x.letter(3, 1), Check.NONE);
        Check.same("ten still", x.count(9), 10);
        LastHome y = new LastHome();
        for (int i = 0; i < 9; i++) {
            y.letter(20, 2);
        }
        Check.same("nine leave all rows of two", y.fit(2, Check.NONE), 231);
        y.letter(0, 2);
        Check.same("the tenth counts, too", y.fit(2, Check.NONE), 1);
        y.letter(0, 0);
        Check.same("the eleventh does not", y.fit(2, Check.NONE), 1);
        Check.war(y, "m;ms1");
        Check.same("a WAR begins anew", y.letter(20, 2), 1);
    }

    /** As many (0 .. 3) have k (0 .. 20) STEPS or fewer. NONE: out of bounds. */
    private static void lettersAtTheirBounds() {
        for (int k = -2; k <= 22; k++) {
            for (int many = -2; many <= 5; many++) {
                LastHome x = new LastHome();
                boolean right = k >= 0 && k <= 20 && many >= 0 && many <= 3;
                Check.same("letter " + k + " " + many, x.letter(k, many), right ? 1 : Check.NONE);
                Check.same("LETTERS", x.count(9), right ? 1 : 0);
                for (int n = 1; n <= 3; n++) {
                    int due = right ? many > n ? 0 : rows(k + 1, many) * rows(20 - k, n - many) : rows(21, n);
                    Check.same("FIT of " + n + " by " + k + " " + many, x.fit(n, Check.NONE), due);
                }
            }
        }
    }

    /** How many rows of so many MEN rise, if each has one of so many STEPS. */
    private static int rows(int steps, int men) {
        int product = 1;
        for (int i = 0; i < men; i++) {
            product *= steps + i;
        }
        return men == 3 ? product / 6 : men == 2 ? product / 2 : product;
    }

    /** Rows of STEPS that rise (may be alike; digits to the base 21, the first the highest): the i-th (rising). */
    private static void fitFromFirstToLast() {
        LastHome one = new LastHome();
        for (int i = -2; i <= 22; i++) {
            Check.same("fit 1 " + i, one.fit(1, i), i == -1 ? 21 : i >= 0 && i <= 20 ? i : Check.NONE);
        }
        LastHome two = new LastHome();
        int found = 0;
        for (int a = 0; a <= 20; a++) {
            for (int b = a; b <= 20; b++) {
                Check.same("fit 2 " + found, two.fit(2, found), a * 21 + b);
                found++;
            }
        }
        Check.same("how many", two.fit(2, Check.NONE), found);
        Check.same("no more", two.fit(2, found), Check.NONE);
        found = 0;
        LastHome three = new LastHome();
        for (int a = 0; a <= 20; a++) {
            for (int b = a; b <= 20; b++) {
                for (int c = b; c <= 20; c++) {
                    three = found % 400 == 0 ? new LastHome() : three;
                    Check.same("fit 3 " + found, three.fit(3, found), (a * 21 + b) * 21 + c);
                    found++;
                }
            }
        }
        three = new LastHome();
        Check.same("how many", three.fit(3, Check.NONE), found);
        Check.same("no more", three.fit(3, found), Check.NONE);
        int[] wrong = {Integer.MIN_VALUE, -1, 0, 4, 5, Integer.MAX_VALUE};
        for (int n : wrong) {
            Check.same("fit of " + n, three.fit(n, Check.NONE), Check.NONE);
            Check.same("fit of " + n, three.fit(n, 0), Check.NONE);
        }
    }

    /** By which all LETTERS are so. */
    private static void fitOfLetters() {
        LastHome x = new LastHome();
        x.letter(20, 3);
        Check.same("three of one", x.fit(1, Check.NONE), 0);
        Check.same("three of two", x.fit(2, Check.NONE), 0);
        Check.same("three of three", x.fit(3, Check.NONE), 1771);
        x.letter(0, 3);
        Check.same("all at 0", x.fit(3, Check.NONE), 1);
        Check.same("the row", x.fit(3, 0), 0);
        Check.same("no other one", x.fit(3, 1), Check.NONE);
        LastHome y = new LastHome();
        y.letter(19, 0);
        Check.same("all at 20: one", y.fit(1, 0), 20);
        Check.same("all at 20: two", y.fit(2, 0), 20 * 21 + 20);
        Check.same("all at 20: three", y.fit(3, 0), (20 * 21 + 20) * 21 + 20);
        Check.same("one row", y.fit(3, Check.NONE), 1);
        LastHome z = new LastHome();
        z.letter(7, 1);
        z.letter(6, 0);
        z.letter(11, 2);
        z.letter(10, 1);
        z.letter(12, 2);
        Check.same("7, 11 and one above 12", z.fit(3, Check.NONE), 8);
        Check.same("the first", z.fit(3, 0), (7 * 21 + 11) * 21 + 13);
        Check.same("the last", z.fit(3, 7), (7 * 21 + 11) * 21 + 20);
        Check.same("two", z.fit(2, Check.NONE), 1);
        z.letter(12, 2);
        Check.same("the same again", z.fit(3, Check.NONE), 8);
        z.letter(12, 3);
        Check.same("against one another", z.fit(3, Check.NONE), 0);
    }

    /** ASK: k (0 .. 20) whose most frequent answer is the least frequent (of several the lowest); how many that is. */
    private static void askWithoutLetters() {
        for (int n = 1; n <= 3; n++) {
            int best = -1;
            int least = Integer.MAX_VALUE;
            for (int k = 0; k <= 20; k++) {
                int most = 0;
                for (int many = 0; many <= n; many++) {
                    most = Math.max(most, rows(k + 1, many) * rows(20 - k, n - many));
                }
                if (most < least) {
                    least = most;
                    best = k;
                }
            }
            LastHome x = new LastHome();
            Check.same("ask " + n, x.ask(n, 0), best);
            Check.same("how many of " + n, x.ask(n, 1), least);
        }
        LastHome one = new LastHome();
        Check.same("9 and 10 alike: the lowest", one.ask(1, 0), 9);
        Check.same("eleven of them", one.ask(1, 1), 11);
    }

    /** Among what fits. NONE: nothing fits, out of bounds, no such what. */
    private static void askAmongWhatFits() {
        LastHome x = new LastHome();
        x.letter(9, 1);
        Check.same("0 .. 9", x.ask(1, 0), 4);
        Check.same("five of them", x.ask(1, 1), 5);
        x.letter(8, 0);
        Check.same("9 alone: the lowest", x.ask(1, 0), 0);
        Check.same("one", x.ask(1, 1), 1);
        x.letter(7, 1);
        Check.same("nothing", x.ask(1, 0), Check.NONE);
        Check.same("nothing", x.ask(1, 1), Check.NONE);
        LastHome y = new LastHome();
        y.letter(18, 0);
        Check.same("19 or 20", y.ask(1, 0), 19);
        Check.same("one each", y.ask(1, 1), 1);
        Check.same("19 19, 19 20 or 20 20", y.ask(2, 0), 19);
        Check.same("one each", y.ask(2, 1), 1);
        LastHome z = new LastHome();
        z.letter(19, 0);
        Check.same("20 alone", z.ask(3, 0), 0);
        z.letter(20, 3);
        Check.same("of three", z.ask(3, 1), 1);
        Check.same("nothing of two", z.ask(2, 0), Check.NONE);
        int[] wrong = {Integer.MIN_VALUE, -1, 0, 4, Integer.MAX_VALUE};
        for (int n : wrong) {
            Check.same("ask of " + n, z.ask(n, 0), Check.NONE);
        }
        Check.same("what 2", z.ask(3, 2), Check.NONE);
        Check.same("what -1", z.ask(3, -1), Check.NONE);
    }

    /** SURE: STEPS (bits 0 .. 20) that stand in all rows that FIT. NONE: nothing fits, out of bounds. */
    private static void sureInAllRows() {
        LastHome x = new LastHome();
        for (int n = -1; n <= 5; n++) {
            Check.same("sure of " + n, x.sure(n), n >= 1 && n <= 3 ? 0 : Check.NONE);
        }
        x.letter(0, 1);
        Check.same("one at 0, one", x.sure(1), 1);
        Check.same("one at 0, two", x.sure(2), 1);
        x.letter(19, 1);
        Check.same("the other at 20", x.sure(2), 1 | 1 << 20);
        Check.same("two others at 20", x.sure(3), 1 | 1 << 20);
        Check.same("one", x.sure(1), 1);
        x.letter(20, 1);
        Check.same("no other", x.sure(2), Check.NONE);
        Check.same("one", x.sure(1), 1);
        LastHome y = new LastHome();
        y.letter(5, 3);
        y.letter(4, 0);
        Check.same("all at 5", y.sure(3), 1 << 5);
        LastHome z = new LastHome();
        z.letter(6, 3);
        z.letter(4, 0);
        Check.same("5 or 6", z.sure(3), 0);
        z.letter(5, 2);
        Check.same("5 5 6", z.sure(3), 1 << 5 | 1 << 6);
        LastHome all = new LastHome();
        all.letter(1, 1);
        all.letter(2, 2);
        all.letter(3, 3);
        all.letter(0, 0);
        Check.same("1 2 3", all.sure(3), 14);
    }

    private static int odds(int steps, int ill, int days) {
        long[] now = new long[21];
        now[steps] = ALL_PARTS;
        for (int d = 0; d < days; d++) {
            long[] then = new long[21];
            then[0] = now[0];
            for (int s = 1; s <= 20; s++) {
                long stay = now[s] * ill / 10;
                then[s] += stay;
                then[s - 1] += now[s] - stay;
            }
            now = then;
        }
        return (int) now[0];
    }

    /** Has no STEPS to go behind n (0 .. 40) DAYS. NONE: out of bounds. */
    private static void oddsByDays() {
        int[] steps = {0, 1, 2, 6, 19, 20};
        for (int far : steps) {
            for (int ill = 0; ill <= 9; ill++) {
                LastHome x = Check.war("md" + far + "i" + ill + ";ms1");
                for (int n = 0; n <= 40; n++) {
                    int got = x.odds(0, n);
                    Check.same("STEPS " + far + " ILL " + ill + " behind " + n, got, odds(far, ill, n));
                    if (n < far || far == 0 || ill == 0) {
                        Check.same("none or all", got, n < far ? 0 : ALL_PARTS);
                    }
                }
                Check.same("41 DAYS", x.odds(0, 41), Check.NONE);
                Check.same("-1 DAYS", x.odds(0, -1), Check.NONE);
            }
        }
        LastHome y = Check.war("md2i5;ms1");
        y.go(0);
        Check.same("STEPS as they are", y.odds(0, 1), ALL_PARTS / 2);
    }

    /** ILL by 10 of each part, cut, stay. */
    private static void oddsAreCut() {
        LastHome x = Check.war("md1i9;ms1d2i1");
        // 10 to the 9 times 9/10 stays whole for nine DAYS; 348678440.1 is cut on the tenth.
        Check.same("nine DAYS", x.odds(0, 9), ALL_PARTS - 387420489);
        Check.same("ten DAYS", x.odds(0, 10), ALL_PARTS - 348678440);
        Check.same("two STEPS in two DAYS", x.odds(1, 2), 810000000);
        Check.same("two STEPS in three DAYS", x.odds(1, 3), 810000000 + 162000000);
    }

    /** HURRY: of MEN of a SIDE who have STEPS to go the one with the greatest such parts (of several the lowest). */
    private static void hurryOfSeveral() {
        LastHome x = Check.war("md0;md3;md2i9;md2i9;ms1d5;ms1d5i1");
        Check.same("none is there behind 0: the lowest with STEPS", x.hurry(0, 0), 1);
        Check.same("nor behind 1", x.hurry(0, 1), 1);
        Check.same("behind 2: of several the lowest", x.hurry(0, 2), 2);
        Check.same("behind 3", x.hurry(0, 3), 1);
        Check.same("behind 40", x.hurry(0, 40), 1);
        Check.same("41", x.hurry(0, 41), Check.NONE);
        Check.same("-1", x.hurry(0, -1), Check.NONE);
        Check.same("behind 4", x.hurry(1, 4), 4);
        Check.same("behind 5", x.hurry(1, 5), 4);
        Check.same("MAN 0", Check.war("md5;md5i1;ms1").hurry(0, 5), 0);
        Check.same("MAN 7", Check.war("md5i1;m;m;m;m;m;ms1;md1").hurry(0, 1), 7);
        Check.same("MAN 0 of SIDE 1", Check.war("ms1d5;md5").hurry(1, 0), 0);
        Check.same("the second of SIDE 1", Check.war("m;ms1d5i1;ms1d5").hurry(1, 5), 2);
        Check.same("nobody", Check.war("m;ms1d0;ms1d0").hurry(1, 5), Check.NONE);
        Check.same("no SIDE 2", x.hurry(2, 5), Check.NONE);
        Check.same("no SIDE -1", x.hurry(-1, 5), Check.NONE);
    }
}
