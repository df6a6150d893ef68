/** Promises 27 to 33 and 40: EACH FOR HIMSELF, LETTERS and sickness. */
public final class ChanceTest {
    private ChanceTest() {
    }

    public static void main(String[] args) {
        checkGets();
        checkResting();
        checkLetters();
        checkFit();
        checkAsk();
        checkSure();
        checkOdds();
        checkHurry();
        Check.finish("ChanceTest");
    }

    private static void checkGets() {
        LastHome x = Check.war("mn2;mn5;ms1n9;wp4");
        int[][] due = {
            {0, 0, 0}, {2, 0, 0}, {0, 5, 0}, {2 - 4, 5 - 4, 4},
            {4, 4, 9 - 4}, {2 + 4, 4, 9 - 4}, {4, 5 + 4, 9 - 4}, {2, 5, 9}
        };
        for (int set = 0; set < 8; set++) {
            for (int m = 0; m < 3; m++) {
                Check.same("gets " + m + " by " + set, x.gets(m, set), due[set][m]);
            }
        }
        Check.same("set 8", x.gets(0, 8), Check.HIDDEN);
        Check.same("set -1", x.gets(0, -1), Check.HIDDEN);
        Check.same("MAN 3", x.gets(3, 0), Check.HIDDEN);
        Check.same("MAN -1", x.gets(-1, 0), Check.HIDDEN);
        LastHome y = Check.war("m;m;m;m;m;m;m;ms1");
        Check.same("set 255", y.gets(7, 255), 3);
        Check.same("set 256", y.gets(7, 256), Check.HIDDEN);
    }

    private static void checkResting() {
        LastHome x = Check.war("mn3;ms1n3");
        Check.same("both march, or neither has more", x.resting(Check.NONE), restingByHand(x, 2, -1));
        Check.same("the first", x.resting(0), 0);
        Check.same("no second", x.resting(1), Check.NONE);
        Check.same("-2", x.resting(-2), Check.NONE);
        LastHome y = Check.war("mn9;mn1;mn0;ms1n9;ms1n5;wp5");
        int many = y.resting(Check.NONE);
        Check.same("how many", many, restingByHand(y, 5, -1));
        for (int i = 0; i <= many; i++) {
            Check.same("the " + i + "-th", y.resting(i), restingByHand(y, 5, i));
        }
        Check.same("NEED 0, PAY 0: all", Check.war("mn0;ms1n0;wp0").resting(Check.NONE), 4);
    }

    private static int restingByHand(LastHome x, int men, int wanted) {
        int found = 0;
        for (int set = 0; set < 1 << men; set++) {
            boolean rests = true;
            for (int m = 0; m < men; m++) {
                rests = rests && x.gets(m, set) >= x.gets(m, set ^ 1 << m);
            }
            if (rests && found == wanted) {
                return set;
            }
            found += rests ? 1 : 0;
        }
        return wanted == -1 ? found : Check.NONE;
    }

    private static void checkLetters() {
        LastHome x = new LastHome();
        Check.same("k -1", x.letter(-1, 0), Check.NONE);
        Check.same("k 21", x.letter(21, 0), Check.NONE);
        Check.same("many -1", x.letter(0, -1), Check.NONE);
        Check.same("many 4", x.letter(0, 4), Check.NONE);
        for (int i = 1; i <= 10; i++) {
            Check.same("letter " + i, x.letter(20, 3), i);
        }
        Check.same("ten at most", x.letter(20, 3), Check.NONE);
        Check.same("count", x.count(9), 10);
        Check.same("three fit", x.fit(3, Check.NONE), 1771);
        Check.same("two do not", x.fit(2, Check.NONE), 0);
        Check.same("no 0-th of none", x.fit(2, 0), Check.NONE);
    }

    private static void checkFit() {
        LastHome x = new LastHome();
        Check.same("one", x.fit(1, Check.NONE), 21);
        Check.same("two", x.fit(2, Check.NONE), 231);
        Check.same("three", x.fit(3, Check.NONE), 1771);
        Check.same("n 0", x.fit(0, Check.NONE), Check.NONE);
        Check.same("n 4", x.fit(4, 0), Check.NONE);
        Check.same("i -2", x.fit(1, -2), Check.NONE);
        Check.same("first of two", x.fit(2, 0), 0);
        Check.same("second of two", x.fit(2, 1), 1);
        Check.same("the 22nd of two", x.fit(2, 21), 22);
        Check.same("last of two", x.fit(2, 230), 20 * 21 + 20);
        Check.same("behind the last", x.fit(2, 231), Check.NONE);
        Check.same("last of three", x.fit(3, 1770), 20 * 441 + 20 * 21 + 20);
        Check.same("behind the last", x.fit(3, 1771), Check.NONE);
        x.letter(4, 1);
        x.letter(9, 2);
        Check.same("two", x.fit(2, Check.NONE), 25);
        Check.same("first of two", x.fit(2, 0), 5);
        Check.same("last of two", x.fit(2, 24), 4 * 21 + 9);
        Check.same("three", x.fit(3, Check.NONE), 25 * 11);
        Check.same("first of three", x.fit(3, 0), 5 * 21 + 10);
        Check.same("one", x.fit(1, Check.NONE), 0);
        x.letter(9, 1);
        Check.same("against one another", x.fit(2, Check.NONE), 0);
    }

    private static void checkAsk() {
        LastHome x = new LastHome();
        Check.same("n 0", x.ask(0, 0), Check.NONE);
        Check.same("n 4", x.ask(4, 0), Check.NONE);
        Check.same("what 2", x.ask(1, 2), Check.NONE);
        Check.same("what -1", x.ask(1, -1), Check.NONE);
        Check.same("the middle", x.ask(1, 0), 9);
        Check.same("eleven", x.ask(1, 1), 11);
        x.letter(3, 1);
        for (int n = 1; n <= 3; n++) {
            int[] due = askByRows(n, 3, 1);
            Check.same("ask " + n, x.ask(n, 0), due[0]);
            Check.same("ask " + n, x.ask(n, 1), due[1]);
        }
        x.letter(3, 0);
        Check.same("nothing fits", x.ask(1, 0), Check.NONE);
        Check.same("nothing fits", x.ask(3, 1), Check.NONE);
    }

    /** All rows of n MEN that rise and FIT one LETTER, and how often each question is answered so or so. */
    private static int[] askByRows(int n, int bound, int within) {
        int[][] many = new int[21][4];
        for (int row = 0; row < 21 * 21 * 21; row++) {
            int[] steps = {row / 441, row / 21 % 21, row % 21};
            boolean rises = n == 3 ? steps[0] <= steps[1] : steps[0] == 0;
            rises = rises && (n >= 2 ? steps[1] <= steps[2] : steps[1] == 0);
            if (rises && below(steps, n, bound) == within) {
                for (int k = 0; k <= 20; k++) {
                    many[k][below(steps, n, k)]++;
                }
            }
        }
        int best = -1;
        int least = Integer.MAX_VALUE;
        for (int k = 0; k <= 20; k++) {
            int most = Math.max(Math.max(many[k][0], many[k][1]), Math.max(many[k][2], many[k][3]));
            if (most < least) {
                best = k;
                least = most;
            }
        }
        return new int[] {best, least};
    }

    private static int below(int[] steps, int n, int bound) {
        int some = 0;
        for (int i = 3 - n; i < 3; i++) {
            some += steps[i] <= bound ? 1 : 0;
        }
        return some;
    }

    private static void checkSure() {
        LastHome x = new LastHome();
        Check.same("nothing is sure", x.sure(3), 0);
        Check.same("n 0", x.sure(0), Check.NONE);
        Check.same("n 4", x.sure(4), Check.NONE);
        x.letter(7, 2);
        x.letter(6, 0);
        Check.same("7 is sure", x.sure(2), 1 << 7);
        Check.same("7 is sure", x.sure(3), 1 << 7);
        Check.same("nothing fits", x.sure(1), Check.NONE);
        x.letter(19, 2);
        Check.same("20, too", x.sure(3), 1 << 7 | 1 << 20);
    }

    private static void checkOdds() {
        LastHome x = Check.war("md3i3;md0i9;ms1d20i9;ms1d1i0");
        Check.same("behind 0", x.odds(0, 0), 0);
        Check.same("behind 2", x.odds(0, 2), 0);
        Check.same("behind 3", x.odds(0, 3), 343000000);
        Check.same("behind 4", x.odds(0, 4), 343000000 + 3 * 102900000);
        Check.same("at 0", x.odds(1, 0), 1000000000);
        Check.same("never ILL", x.odds(3, 1), 1000000000);
        Check.same("never ILL", x.odds(3, 0), 0);
        Check.same("behind 40", x.odds(0, 40) > 999999000, true);
        Check.same("n -1", x.odds(0, -1), Check.NONE);
        Check.same("n 41", x.odds(0, 41), Check.NONE);
        Check.same("MAN 4", x.odds(4, 1), Check.NONE);
        Check.same("MAN -1", x.odds(-1, 1), Check.NONE);
        LastHome y = Check.war("md1i7;ms1");
        // 10 to the 9 times 7/10 again and again stays whole till the tenth DAY, on which 28247524.9 is cut.
        Check.same("cut", y.odds(0, 10), 1000000000 - 28247524);
        Check.same("cut again", y.odds(0, 11), 1000000000 - 19773266);
    }

    private static void checkHurry() {
        LastHome x = Check.war("md0;md3i2;md2i5;md2i5;ms1d0");
        Check.same("of several the lowest", x.hurry(0, 0), 1);
        Check.same("behind 2", x.hurry(0, 2), 2);
        Check.same("behind 3", x.hurry(0, 3), 1);
        Check.same("nobody", x.hurry(1, 3), Check.NONE);
        Check.same("SIDE 2", x.hurry(2, 3), Check.NONE);
        Check.same("SIDE -1", x.hurry(-1, 3), Check.NONE);
        Check.same("n 41", x.hurry(0, 41), Check.NONE);
        Check.same("n -1", x.hurry(0, -1), Check.NONE);
        Check.same("n 40", x.hurry(0, 40) >= 1, true);
    }
}
